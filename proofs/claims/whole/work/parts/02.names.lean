
/-! ===== BEGIN printed: names, fields, word lists, decode rows ===== -/
def RX0 : String := "StakeWeirs$Barge"
def TX0 : u_T := fun k => match k with
  | 0 => ("StakeWeirs$Barge", "ticket", "I", false)
  | 1 => ("StakeWeirs$Barge", "wide", "I", false)
  | 2 => ("StakeWeirs$Barge", "place", "I", false)
  | _ => ("StakeWeirs$Barge", "broken", "I", false)
def tyX0 : Nat → FieldType := fun k => match k with
  | 0 => .int
  | 1 => .int
  | 2 => .int
  | _ => .int
abbrev wsX00 : List Cond := u_ws RX0 TX0 4
theorem nmX0 : ∀ a, a < 4 → ∀ b, b < 4 → a ≠ b → (TX0 a).2.1 ≠ (TX0 b).2.1 := by decide +kernel
theorem tyX0_ok : ∀ k, k < 4 → parseFieldDescriptor (TX0 k).2.2.1 = some (tyX0 k) := by decide +kernel
abbrev cX0_init : ByteArray := prog_2_method_1_code
def yX0_init : MethodName := ⟨RX0, "<init>", "()V"⟩
abbrev cX0_makeNew : ByteArray := prog_2_method_2_code
def yX0_makeNew : MethodName := ⟨RX0, "makeNew", "(II)V"⟩
abbrev cX0_copyFrom : ByteArray := prog_2_method_3_code
def yX0_copyFrom : MethodName := ⟨RX0, "copyFrom", "(LStakeWeirs$Barge;)V"⟩
abbrev cX0_goOn : ByteArray := prog_2_method_4_code
def yX0_goOn : MethodName := ⟨RX0, "goOn", "(I)V"⟩
def RX1 : String := "StakeWeirs$Estuary"
def TX1 : u_T := fun k => match k with
  | 0 => ("StakeWeirs$Estuary", "table", "[I", true)
  | 1 => ("StakeWeirs$Estuary", "weirs", "[LStakeWeirs$Weir;", true)
  | 2 => ("StakeWeirs$Estuary", "order", "[I", true)
  | 3 => ("StakeWeirs$Estuary", "barges", "[LStakeWeirs$Barge;", true)
  | 4 => ("StakeWeirs$Estuary", "weirCount", "I", false)
  | 5 => ("StakeWeirs$Estuary", "bargeCount", "I", false)
  | 6 => ("StakeWeirs$Estuary", "night", "I", false)
  | 7 => ("StakeWeirs$Estuary", "arrived", "I", false)
  | 8 => ("StakeWeirs$Estuary", "fines", "I", false)
  | _ => ("StakeWeirs$Estuary", "rents", "I", false)
def tyX1 : Nat → FieldType := fun k => match k with
  | 0 => .array .int
  | 1 => .array (.object "StakeWeirs$Weir")
  | 2 => .array .int
  | 3 => .array (.object "StakeWeirs$Barge")
  | 4 => .int
  | 5 => .int
  | 6 => .int
  | 7 => .int
  | 8 => .int
  | _ => .int
abbrev wsX10 : List Cond := u_ws RX1 TX1 10
theorem nmX1 : ∀ a, a < 10 → ∀ b, b < 10 → a ≠ b → (TX1 a).2.1 ≠ (TX1 b).2.1 := by decide +kernel
theorem tyX1_ok : ∀ k, k < 10 → parseFieldDescriptor (TX1 k).2.2.1 = some (tyX1 k) := by decide +kernel
abbrev cX1_init : ByteArray := prog_3_method_1_code
def yX1_init : MethodName := ⟨RX1, "<init>", "()V"⟩
abbrev cX1_copyFrom : ByteArray := prog_3_method_2_code
def yX1_copyFrom : MethodName := ⟨RX1, "copyFrom", "(LStakeWeirs$Estuary;)V"⟩
abbrev cX1_copyWeir : ByteArray := prog_3_method_3_code
def yX1_copyWeir : MethodName := ⟨RX1, "copyWeir", "(LStakeWeirs$Weir;LStakeWeirs$Weir;)V"⟩
abbrev cX1_copyBarge : ByteArray := prog_3_method_4_code
def yX1_copyBarge : MethodName := ⟨RX1, "copyBarge", "(LStakeWeirs$Barge;LStakeWeirs$Barge;)V"⟩
abbrev cX1_weirAt : ByteArray := prog_3_method_5_code
def yX1_weirAt : MethodName := ⟨RX1, "weirAt", "(I)LStakeWeirs$Weir;"⟩
abbrev cX1_bargeAt : ByteArray := prog_3_method_6_code
def yX1_bargeAt : MethodName := ⟨RX1, "bargeAt", "(I)LStakeWeirs$Barge;"⟩
abbrev cX1_inOrder : ByteArray := prog_3_method_7_code
def yX1_inOrder : MethodName := ⟨RX1, "inOrder", "(I)I"⟩
abbrev cX1_tableEels : ByteArray := prog_3_method_8_code
def yX1_tableEels : MethodName := ⟨RX1, "tableEels", "(I)I"⟩
abbrev cX1_setTableEels : ByteArray := prog_3_method_9_code
def yX1_setTableEels : MethodName := ⟨RX1, "setTableEels", "(II)V"⟩
abbrev cX1_addWeir : ByteArray := prog_3_method_10_code
def yX1_addWeir : MethodName := ⟨RX1, "addWeir", "(III)I"⟩
abbrev cX1_putInOrder : ByteArray := prog_3_method_11_code
def yX1_putInOrder : MethodName := ⟨RX1, "putInOrder", "(II)V"⟩
abbrev cX1_isSeawardsOf : ByteArray := prog_3_method_12_code
def yX1_isSeawardsOf : MethodName := ⟨RX1, "isSeawardsOf", "(II)Z"⟩
abbrev cX1_addBarge : ByteArray := prog_3_method_13_code
def yX1_addBarge : MethodName := ⟨RX1, "addBarge", "(I)I"⟩
abbrev cX1_isUnderWay : ByteArray := prog_3_method_14_code
def yX1_isUnderWay : MethodName := ⟨RX1, "isUnderWay", "(I)Z"⟩
abbrev cX1_moon : ByteArray := prog_3_method_15_code
def yX1_moon : MethodName := ⟨RX1, "moon", "()I"⟩
abbrev cX1_run : ByteArray := prog_3_method_16_code
def yX1_run : MethodName := ⟨RX1, "run", "()I"⟩
abbrev cX1_fact : ByteArray := prog_3_method_17_code
def yX1_fact : MethodName := ⟨RX1, "fact", "(I)I"⟩
abbrev cX1_bargeFact : ByteArray := prog_3_method_18_code
def yX1_bargeFact : MethodName := ⟨RX1, "bargeFact", "(LStakeWeirs$Barge;I)I"⟩
abbrev cX1_heldWeirs : ByteArray := prog_3_method_19_code
def yX1_heldWeirs : MethodName := ⟨RX1, "heldWeirs", "()I"⟩
abbrev cX1_heldWattle : ByteArray := prog_3_method_20_code
def yX1_heldWattle : MethodName := ⟨RX1, "heldWattle", "()I"⟩
abbrev cX1_allEels : ByteArray := prog_3_method_21_code
def yX1_allEels : MethodName := ⟨RX1, "allEels", "()I"⟩
abbrev cX1_weirsInWay : ByteArray := prog_3_method_22_code
def yX1_weirsInWay : MethodName := ⟨RX1, "weirsInWay", "(I)I"⟩
abbrev cX1_richestHeld : ByteArray := prog_3_method_23_code
def yX1_richestHeld : MethodName := ⟨RX1, "richestHeld", "()I"⟩
abbrev cX1_nextInWay : ByteArray := prog_3_method_24_code
def yX1_nextInWay : MethodName := ⟨RX1, "nextInWay", "(LStakeWeirs$Barge;)I"⟩
abbrev cX1_goThroughNights : ByteArray := prog_3_method_25_code
def yX1_goThroughNights : MethodName := ⟨RX1, "goThroughNights", "(I)V"⟩
abbrev cX1_catchEels : ByteArray := prog_3_method_26_code
def yX1_catchEels : MethodName := ⟨RX1, "catchEels", "()V"⟩
abbrev cX1_moveBarges : ByteArray := prog_3_method_27_code
def yX1_moveBarges : MethodName := ⟨RX1, "moveBarges", "()V"⟩
abbrev cX1_breakThrough : ByteArray := prog_3_method_28_code
def yX1_breakThrough : MethodName := ⟨RX1, "breakThrough", "(LStakeWeirs$Barge;)V"⟩
abbrev cX1_leaveOutArrived : ByteArray := prog_3_method_29_code
def yX1_leaveOutArrived : MethodName := ⟨RX1, "leaveOutArrived", "()V"⟩
abbrev cX1_rotWattle : ByteArray := prog_3_method_30_code
def yX1_rotWattle : MethodName := ⟨RX1, "rotWattle", "()V"⟩
abbrev cX1_collectRents : ByteArray := prog_3_method_31_code
def yX1_collectRents : MethodName := ⟨RX1, "collectRents", "()V"⟩
def RX2 : String := "StakeWeirs$Weir"
def TX2 : u_T := fun k => match k with
  | 0 => ("StakeWeirs$Weir", "place", "I", false)
  | 1 => ("StakeWeirs$Weir", "stakes", "I", false)
  | 2 => ("StakeWeirs$Weir", "wattle", "I", false)
  | 3 => ("StakeWeirs$Weir", "rent", "I", false)
  | 4 => ("StakeWeirs$Weir", "coins", "I", false)
  | 5 => ("StakeWeirs$Weir", "eels", "I", false)
  | 6 => ("StakeWeirs$Weir", "open", "Z", false)
  | _ => ("StakeWeirs$Weir", "owed", "I", false)
def tyX2 : Nat → FieldType := fun k => match k with
  | 0 => .int
  | 1 => .int
  | 2 => .int
  | 3 => .int
  | 4 => .int
  | 5 => .int
  | 6 => .boolean
  | _ => .int
abbrev wsX20 : List Cond := u_ws RX2 TX2 8
theorem nmX2 : ∀ a, a < 8 → ∀ b, b < 8 → a ≠ b → (TX2 a).2.1 ≠ (TX2 b).2.1 := by decide +kernel
theorem tyX2_ok : ∀ k, k < 8 → parseFieldDescriptor (TX2 k).2.2.1 = some (tyX2 k) := by decide +kernel
abbrev cX2_init : ByteArray := prog_4_method_1_code
def yX2_init : MethodName := ⟨RX2, "<init>", "()V"⟩
abbrev cX2_makeNew : ByteArray := prog_4_method_2_code
def yX2_makeNew : MethodName := ⟨RX2, "makeNew", "(III)V"⟩
abbrev cX2_copyFrom : ByteArray := prog_4_method_3_code
def yX2_copyFrom : MethodName := ⟨RX2, "copyFrom", "(LStakeWeirs$Weir;)V"⟩
abbrev cX2_isHeld : ByteArray := prog_4_method_4_code
def yX2_isHeld : MethodName := ⟨RX2, "isHeld", "()Z"⟩
abbrev cX2_isFishing : ByteArray := prog_4_method_5_code
def yX2_isFishing : MethodName := ⟨RX2, "isFishing", "()Z"⟩
abbrev cX2_isInWay : ByteArray := prog_4_method_6_code
def yX2_isInWay : MethodName := ⟨RX2, "isInWay", "(I)Z"⟩
abbrev cX2_fact : ByteArray := prog_4_method_7_code
def yX2_fact : MethodName := ⟨RX2, "fact", "(I)I"⟩
abbrev cX2_catchOf : ByteArray := prog_4_method_8_code
def yX2_catchOf : MethodName := ⟨RX2, "catchOf", "(I)I"⟩
abbrev cX2_breakFor : ByteArray := prog_4_method_9_code
def yX2_breakFor : MethodName := ⟨RX2, "breakFor", "(I)I"⟩
abbrev cX2_loseWattle : ByteArray := prog_4_method_10_code
def yX2_loseWattle : MethodName := ⟨RX2, "loseWattle", "(I)V"⟩
abbrev cX2_payRent : ByteArray := prog_4_method_11_code
def yX2_payRent : MethodName := ⟨RX2, "payRent", "()I"⟩
def RX3 : String := "StakeWeirs"
def TX3 : u_T := fun k => match k with
  | 0 => ("StakeWeirs", "now", "LStakeWeirs$Estuary;", true)
  | _ => ("StakeWeirs", "trial", "LStakeWeirs$Estuary;", true)
def tyX3 : Nat → FieldType := fun k => match k with
  | 0 => .object "StakeWeirs$Estuary"
  | _ => .object "StakeWeirs$Estuary"
abbrev wsX30 : List Cond := u_ws RX3 TX3 2
theorem nmX3 : ∀ a, a < 2 → ∀ b, b < 2 → a ≠ b → (TX3 a).2.1 ≠ (TX3 b).2.1 := by decide +kernel
theorem tyX3_ok : ∀ k, k < 2 → parseFieldDescriptor (TX3 k).2.2.1 = some (tyX3 k) := by decide +kernel
abbrev cX3_init : ByteArray := prog_1_method_1_code
def yX3_init : MethodName := ⟨RX3, "<init>", "()V"⟩
abbrev cX3_weir : ByteArray := prog_1_method_2_code
def yX3_weir : MethodName := ⟨RX3, "weir", "(III)I"⟩
abbrev cX3_gate : ByteArray := prog_1_method_3_code
def yX3_gate : MethodName := ⟨RX3, "gate", "(I)Z"⟩
abbrev cX3_mend : ByteArray := prog_1_method_4_code
def yX3_mend : MethodName := ⟨RX3, "mend", "(II)I"⟩
abbrev cX3_drive : ByteArray := prog_1_method_5_code
def yX3_drive : MethodName := ⟨RX3, "drive", "(II)I"⟩
abbrev cX3_sell : ByteArray := prog_1_method_6_code
def yX3_sell : MethodName := ⟨RX3, "sell", "(I)I"⟩
abbrev cX3_setRun : ByteArray := prog_1_method_7_code
def yX3_setRun : MethodName := ⟨RX3, "setRun", "(II)I"⟩
abbrev cX3_barge : ByteArray := prog_1_method_8_code
def yX3_barge : MethodName := ⟨RX3, "barge", "(I)I"⟩
abbrev cX3_about : ByteArray := prog_1_method_9_code
def yX3_about : MethodName := ⟨RX3, "about", "(II)I"⟩
abbrev cX3_told : ByteArray := prog_1_method_10_code
def yX3_told : MethodName := ⟨RX3, "told", "(II)I"⟩
abbrev cX3_count : ByteArray := prog_1_method_11_code
def yX3_count : MethodName := ⟨RX3, "count", "(I)I"⟩
abbrev cX3_hinders : ByteArray := prog_1_method_12_code
def yX3_hinders : MethodName := ⟨RX3, "hinders", "(I)I"⟩
abbrev cX3_richest : ByteArray := prog_1_method_13_code
def yX3_richest : MethodName := ⟨RX3, "richest", "()I"⟩
abbrev cX3_pass : ByteArray := prog_1_method_14_code
def yX3_pass : MethodName := ⟨RX3, "pass", "(I)I"⟩
abbrev cX3_catches : ByteArray := prog_1_method_15_code
def yX3_catches : MethodName := ⟨RX3, "catches", "(I)I"⟩
abbrev cX3_arrives : ByteArray := prog_1_method_16_code
def yX3_arrives : MethodName := ⟨RX3, "arrives", "(I)I"⟩
abbrev cX3_lasts : ByteArray := prog_1_method_17_code
def yX3_lasts : MethodName := ⟨RX3, "lasts", "(I)I"⟩
abbrev cX3_foresee : ByteArray := prog_1_method_18_code
def yX3_foresee : MethodName := ⟨RX3, "foresee", "(II)I"⟩
abbrev cX3_advise : ByteArray := prog_1_method_19_code
def yX3_advise : MethodName := ⟨RX3, "advise", "(II)I"⟩
abbrev cX3_mean : ByteArray := prog_1_method_20_code
def yX3_mean : MethodName := ⟨RX3, "mean", "()D"⟩
abbrev cX3_digest : ByteArray := prog_1_method_21_code
def yX3_digest : MethodName := ⟨RX3, "digest", "()J"⟩
abbrev cX3_digestOfWeirs : ByteArray := prog_1_method_22_code
def yX3_digestOfWeirs : MethodName := ⟨RX3, "digestOfWeirs", "(J)J"⟩
abbrev cX3_digestOfBarges : ByteArray := prog_1_method_23_code
def yX3_digestOfBarges : MethodName := ⟨RX3, "digestOfBarges", "(J)J"⟩
abbrev cX3_eelsWithStakes : ByteArray := prog_1_method_24_code
def yX3_eelsWithStakes : MethodName := ⟨RX3, "eelsWithStakes", "(III)I"⟩
abbrev cX3_isWithin : ByteArray := prog_1_method_25_code
def yX3_isWithin : MethodName := ⟨RX3, "isWithin", "(III)Z"⟩
abbrev cX3_priceOfEels : ByteArray := prog_1_method_26_code
def yX3_priceOfEels : MethodName := ⟨RX3, "priceOfEels", "(II)I"⟩
def RX4 : String := "StakeWeirsModel$State"
def TX4 : u_T := fun k => match k with
  | 0 => ("StakeWeirsModel$State", "night", "I", false)
  | 1 => ("StakeWeirsModel$State", "stakes", "[I", true)
  | 2 => ("StakeWeirsModel$State", "wattle", "[I", true)
  | 3 => ("StakeWeirsModel$State", "coins", "[I", true)
  | 4 => ("StakeWeirsModel$State", "eels", "[I", true)
  | 5 => ("StakeWeirsModel$State", "open", "[I", true)
  | 6 => ("StakeWeirsModel$State", "owes", "[I", true)
  | 7 => ("StakeWeirsModel$State", "barges", "I", false)
  | 8 => ("StakeWeirsModel$State", "wide", "[I", true)
  | 9 => ("StakeWeirsModel$State", "at", "[I", true)
  | 10 => ("StakeWeirsModel$State", "broken", "[I", true)
  | 11 => ("StakeWeirsModel$State", "was", "[I", true)
  | 12 => ("StakeWeirsModel$State", "arrived", "I", false)
  | 13 => ("StakeWeirsModel$State", "fines", "I", false)
  | 14 => ("StakeWeirsModel$State", "rents", "I", false)
  | _ => ("StakeWeirsModel$State", "this$0", "LStakeWeirsModel;", true)
def tyX4 : Nat → FieldType := fun k => match k with
  | 0 => .int
  | 1 => .array .int
  | 2 => .array .int
  | 3 => .array .int
  | 4 => .array .int
  | 5 => .array .int
  | 6 => .array .int
  | 7 => .int
  | 8 => .array .int
  | 9 => .array .int
  | 10 => .array .int
  | 11 => .array .int
  | 12 => .int
  | 13 => .int
  | 14 => .int
  | _ => .object "StakeWeirsModel"
abbrev wsX40 : List Cond := u_ws RX4 TX4 16
theorem nmX4 : ∀ a, a < 16 → ∀ b, b < 16 → a ≠ b → (TX4 a).2.1 ≠ (TX4 b).2.1 := by decide +kernel
theorem tyX4_ok : ∀ k, k < 16 → parseFieldDescriptor (TX4 k).2.2.1 = some (tyX4 k) := by decide +kernel
abbrev cX4_init : ByteArray := prog_7_method_1_code
def yX4_init : MethodName := ⟨RX4, "<init>", "(LStakeWeirsModel;)V"⟩
abbrev cX4_copy : ByteArray := prog_7_method_2_code
def yX4_copy : MethodName := ⟨RX4, "copy", "([I[I)V"⟩
abbrev cX4_become : ByteArray := prog_7_method_3_code
def yX4_become : MethodName := ⟨RX4, "become", "(LStakeWeirsModel$State;)LStakeWeirsModel$State;"⟩
abbrev cX4_isHeld : ByteArray := prog_7_method_4_code
def yX4_isHeld : MethodName := ⟨RX4, "isHeld", "(I)Z"⟩
abbrev cX4_moon : ByteArray := prog_7_method_5_code
def yX4_moon : MethodName := ⟨RX4, "moon", "()I"⟩
abbrev cX4_run : ByteArray := prog_7_method_6_code
def yX4_run : MethodName := ⟨RX4, "run", "()I"⟩
abbrev cX4_isInWay : ByteArray := prog_7_method_7_code
def yX4_isInWay : MethodName := ⟨RX4, "isInWay", "(II)Z"⟩
abbrev cX4_runDown : ByteArray := prog_7_method_8_code
def yX4_runDown : MethodName := ⟨RX4, "runDown", "(I)I"⟩
abbrev cX4_breaks : ByteArray := prog_7_method_9_code
def yX4_breaks : MethodName := ⟨RX4, "breaks", "(I)Z"⟩
abbrev cX4_goUp : ByteArray := prog_7_method_10_code
def yX4_goUp : MethodName := ⟨RX4, "goUp", "(I)V"⟩
abbrev cX4_leave : ByteArray := prog_7_method_11_code
def yX4_leave : MethodName := ⟨RX4, "leave", "()V"⟩
abbrev cX4_payRent : ByteArray := prog_7_method_12_code
def yX4_payRent : MethodName := ⟨RX4, "payRent", "(I)V"⟩
abbrev cX4_pass : ByteArray := prog_7_method_13_code
def yX4_pass : MethodName := ⟨RX4, "pass", "()V"⟩
abbrev cX4_pass_ : ByteArray := prog_7_method_14_code
def yX4_pass_ : MethodName := ⟨RX4, "pass", "(I)V"⟩
abbrev cX4_held : ByteArray := prog_7_method_15_code
def yX4_held : MethodName := ⟨RX4, "held", "()I"⟩
abbrev cX4_allEels : ByteArray := prog_7_method_16_code
def yX4_allEels : MethodName := ⟨RX4, "allEels", "()I"⟩
abbrev cX4_counted : ByteArray := prog_7_method_17_code
def yX4_counted : MethodName := ⟨RX4, "counted", "(I)I"⟩
def RX5 : String := "StakeWeirsModel"
def TX5 : u_T := fun k => match k with
  | 0 => ("StakeWeirsModel", "thrown", "I", false)
  | 1 => ("StakeWeirsModel", "table", "[I", true)
  | 2 => ("StakeWeirsModel", "weirs", "I", false)
  | 3 => ("StakeWeirsModel", "place", "[I", true)
  | 4 => ("StakeWeirsModel", "rent", "[I", true)
  | 5 => ("StakeWeirsModel", "s", "LStakeWeirsModel$State;", true)
  | _ => ("StakeWeirsModel", "ahead", "LStakeWeirsModel$State;", true)
def tyX5 : Nat → FieldType := fun k => match k with
  | 0 => .int
  | 1 => .array .int
  | 2 => .int
  | 3 => .array .int
  | 4 => .array .int
  | 5 => .object "StakeWeirsModel$State"
  | _ => .object "StakeWeirsModel$State"
abbrev wsX50 : List Cond := u_ws RX5 TX5 7
theorem nmX5 : ∀ a, a < 7 → ∀ b, b < 7 → a ≠ b → (TX5 a).2.1 ≠ (TX5 b).2.1 := by decide +kernel
theorem tyX5_ok : ∀ k, k < 7 → parseFieldDescriptor (TX5 k).2.2.1 = some (tyX5 k) := by decide +kernel
abbrev cX5_init : ByteArray := prog_6_method_1_code
def yX5_init : MethodName := ⟨RX5, "<init>", "()V"⟩
abbrev cX5_thrown : ByteArray := prog_6_method_2_code
def yX5_thrown : MethodName := ⟨RX5, "thrown", "()I"⟩
abbrev cX5_no : ByteArray := prog_6_method_3_code
def yX5_no : MethodName := ⟨RX5, "no", "(I)I"⟩
abbrev cX5_isIn : ByteArray := prog_6_method_4_code
def yX5_isIn : MethodName := ⟨RX5, "isIn", "(III)Z"⟩
abbrev cX5_isWeir : ByteArray := prog_6_method_5_code
def yX5_isWeir : MethodName := ⟨RX5, "isWeir", "(I)Z"⟩
abbrev cX5_isBarge : ByteArray := prog_6_method_6_code
def yX5_isBarge : MethodName := ⟨RX5, "isBarge", "(I)Z"⟩
abbrev cX5_weir : ByteArray := prog_6_method_7_code
def yX5_weir : MethodName := ⟨RX5, "weir", "(III)I"⟩
abbrev cX5_gate : ByteArray := prog_6_method_8_code
def yX5_gate : MethodName := ⟨RX5, "gate", "(I)Z"⟩
abbrev cX5_mend : ByteArray := prog_6_method_9_code
def yX5_mend : MethodName := ⟨RX5, "mend", "(II)I"⟩
abbrev cX5_drive : ByteArray := prog_6_method_10_code
def yX5_drive : MethodName := ⟨RX5, "drive", "(II)I"⟩
abbrev cX5_sell : ByteArray := prog_6_method_11_code
def yX5_sell : MethodName := ⟨RX5, "sell", "(I)I"⟩
abbrev cX5_setRun : ByteArray := prog_6_method_12_code
def yX5_setRun : MethodName := ⟨RX5, "setRun", "(II)I"⟩
abbrev cX5_barge : ByteArray := prog_6_method_13_code
def yX5_barge : MethodName := ⟨RX5, "barge", "(I)I"⟩
abbrev cX5_weirTold : ByteArray := prog_6_method_14_code
def yX5_weirTold : MethodName := ⟨RX5, "weirTold", "(II)I"⟩
abbrev cX5_about : ByteArray := prog_6_method_15_code
def yX5_about : MethodName := ⟨RX5, "about", "(II)I"⟩
abbrev cX5_nextFor : ByteArray := prog_6_method_16_code
def yX5_nextFor : MethodName := ⟨RX5, "nextFor", "(I)I"⟩
abbrev cX5_bargeTold : ByteArray := prog_6_method_17_code
def yX5_bargeTold : MethodName := ⟨RX5, "bargeTold", "(II)I"⟩
abbrev cX5_told : ByteArray := prog_6_method_18_code
def yX5_told : MethodName := ⟨RX5, "told", "(II)I"⟩
abbrev cX5_count : ByteArray := prog_6_method_19_code
def yX5_count : MethodName := ⟨RX5, "count", "(I)I"⟩
abbrev cX5_hinders : ByteArray := prog_6_method_20_code
def yX5_hinders : MethodName := ⟨RX5, "hinders", "(I)I"⟩
abbrev cX5_richest : ByteArray := prog_6_method_21_code
def yX5_richest : MethodName := ⟨RX5, "richest", "()I"⟩
abbrev cX5_pass : ByteArray := prog_6_method_22_code
def yX5_pass : MethodName := ⟨RX5, "pass", "(I)I"⟩
abbrev cX5_catches : ByteArray := prog_6_method_23_code
def yX5_catches : MethodName := ⟨RX5, "catches", "(I)I"⟩
abbrev cX5_isUnderWay : ByteArray := prog_6_method_24_code
def yX5_isUnderWay : MethodName := ⟨RX5, "isUnderWay", "(I)Z"⟩
abbrev cX5_arrives : ByteArray := prog_6_method_25_code
def yX5_arrives : MethodName := ⟨RX5, "arrives", "(I)I"⟩
abbrev cX5_lasts : ByteArray := prog_6_method_26_code
def yX5_lasts : MethodName := ⟨RX5, "lasts", "(I)I"⟩
abbrev cX5_foresee : ByteArray := prog_6_method_27_code
def yX5_foresee : MethodName := ⟨RX5, "foresee", "(II)I"⟩
abbrev cX5_advise : ByteArray := prog_6_method_28_code
def yX5_advise : MethodName := ⟨RX5, "advise", "(II)I"⟩
abbrev cX5_mean : ByteArray := prog_6_method_29_code
def yX5_mean : MethodName := ⟨RX5, "mean", "()D"⟩
abbrev cX5_digest : ByteArray := prog_6_method_30_code
def yX5_digest : MethodName := ⟨RX5, "digest", "()J"⟩
def RJ9 : String := "java/lang/Math"
def TJ9 : u_T := fun k => match k with
  | _ => ("", "", "", false)
def tyJ9 : Nat → FieldType := fun k => match k with
  | _ => .int
abbrev wsJ90 : List Cond := u_ws RJ9 TJ9 0
theorem nmJ9 : ∀ a, a < 0 → ∀ b, b < 0 → a ≠ b → (TJ9 a).2.1 ≠ (TJ9 b).2.1 := by decide +kernel
theorem tyJ9_ok : ∀ k, k < 0 → parseFieldDescriptor (TJ9 k).2.2.1 = some (tyJ9 k) := by decide +kernel
abbrev cJ9_floorMod_7cf53 : ByteArray := prog_12_method_50_code
def yJ9_floorMod_7cf53 : MethodName := ⟨RJ9, "floorMod", "(II)I"⟩
abbrev cJ9_max_7cf53 : ByteArray := prog_12_method_65_code
def yJ9_max_7cf53 : MethodName := ⟨RJ9, "max", "(II)I"⟩
abbrev cJ9_min_7cf53 : ByteArray := prog_12_method_69_code
def yJ9_min_7cf53 : MethodName := ⟨RJ9, "min", "(II)I"⟩
def RJ0 : String := "java/lang/String"
def TJ0 : u_T := fun k => match k with
  | _ => ("", "", "", false)
def tyJ0 : Nat → FieldType := fun k => match k with
  | _ => .int
abbrev wsJ00 : List Cond := u_ws RJ0 TJ0 0
theorem nmJ0 : ∀ a, a < 0 → ∀ b, b < 0 → a ≠ b → (TJ0 a).2.1 ≠ (TJ0 b).2.1 := by decide +kernel
theorem tyJ0_ok : ∀ k, k < 0 → parseFieldDescriptor (TJ0 k).2.2.1 = some (tyJ0 k) := by decide +kernel
def RJ10 : String := "java/lang/System"
def TJ10 : u_T := fun k => match k with
  | _ => ("", "", "", false)
def tyJ10 : Nat → FieldType := fun k => match k with
  | _ => .int
abbrev wsJ100 : List Cond := u_ws RJ10 TJ10 0
theorem nmJ10 : ∀ a, a < 0 → ∀ b, b < 0 → a ≠ b → (TJ10 a).2.1 ≠ (TJ10 b).2.1 := by decide +kernel
theorem tyJ10_ok : ∀ k, k < 0 → parseFieldDescriptor (TJ10 k).2.2.1 = some (tyJ10 k) := by decide +kernel
def RL : String := "StakeWeirsLaw"
abbrev cL_weir : ByteArray := method_3_code
def yL_weir : MethodName := ⟨RL, "weir", "(LStakeWeirs;III[J)I"⟩
abbrev cL_gate : ByteArray := method_4_code
def yL_gate : MethodName := ⟨RL, "gate", "(LStakeWeirs;I[J)I"⟩
abbrev cL_mend : ByteArray := method_5_code
def yL_mend : MethodName := ⟨RL, "mend", "(LStakeWeirs;II[J)I"⟩
abbrev cL_drive : ByteArray := method_6_code
def yL_drive : MethodName := ⟨RL, "drive", "(LStakeWeirs;II[J)I"⟩
abbrev cL_sell : ByteArray := method_7_code
def yL_sell : MethodName := ⟨RL, "sell", "(LStakeWeirs;I[J)I"⟩
abbrev cL_setRun : ByteArray := method_8_code
def yL_setRun : MethodName := ⟨RL, "setRun", "(LStakeWeirs;II[J)I"⟩
abbrev cL_barge : ByteArray := method_9_code
def yL_barge : MethodName := ⟨RL, "barge", "(LStakeWeirs;I[J)I"⟩
abbrev cL_about : ByteArray := method_10_code
def yL_about : MethodName := ⟨RL, "about", "(LStakeWeirs;II[J)I"⟩
abbrev cL_told : ByteArray := method_11_code
def yL_told : MethodName := ⟨RL, "told", "(LStakeWeirs;II[J)I"⟩
abbrev cL_count : ByteArray := method_12_code
def yL_count : MethodName := ⟨RL, "count", "(LStakeWeirs;I[J)I"⟩
abbrev cL_hinders : ByteArray := method_13_code
def yL_hinders : MethodName := ⟨RL, "hinders", "(LStakeWeirs;I[J)I"⟩
abbrev cL_pass : ByteArray := method_14_code
def yL_pass : MethodName := ⟨RL, "pass", "(LStakeWeirs;I[J)I"⟩
abbrev cL_catches : ByteArray := method_15_code
def yL_catches : MethodName := ⟨RL, "catches", "(LStakeWeirs;I[J)I"⟩
abbrev cL_arrives : ByteArray := method_16_code
def yL_arrives : MethodName := ⟨RL, "arrives", "(LStakeWeirs;I[J)I"⟩
abbrev cL_lasts : ByteArray := method_17_code
def yL_lasts : MethodName := ⟨RL, "lasts", "(LStakeWeirs;I[J)I"⟩
abbrev cL_foresee : ByteArray := method_18_code
def yL_foresee : MethodName := ⟨RL, "foresee", "(LStakeWeirs;II[J)I"⟩
abbrev cL_advise : ByteArray := method_19_code
def yL_advise : MethodName := ⟨RL, "advise", "(LStakeWeirs;II[J)I"⟩
abbrev cL_law : ByteArray := code
def yL_law : MethodName := ⟨RL, "law", "([I)Z"⟩
def wsX0_init : List Cond := .code yX0_init cX0_init 1 none :: ([.methodLink RX0 3 objectInit, .instanceMethod objectInit, .code objectInit ⟨#[0xb1]⟩ 1 none])
def wsX0_makeNew : List Cond := .code yX0_makeNew cX0_makeNew 3 none :: ([.fieldLink RX0 9 "StakeWeirs$Barge" "ticket" "I", .fieldLink RX0 15 "StakeWeirs$Barge" "wide" "I", .fieldLink RX0 18 "StakeWeirs$Barge" "place" "I", .fieldLink RX0 21 "StakeWeirs$Barge" "broken" "I"] ++ wsX00)
def wsX0_copyFrom : List Cond := .code yX0_copyFrom cX0_copyFrom 2 none :: ([.fieldLink RX0 9 "StakeWeirs$Barge" "ticket" "I", .fieldLink RX0 15 "StakeWeirs$Barge" "wide" "I", .fieldLink RX0 18 "StakeWeirs$Barge" "place" "I", .fieldLink RX0 21 "StakeWeirs$Barge" "broken" "I"] ++ wsX00)
def wsX0_goOn : List Cond := .code yX0_goOn cX0_goOn 2 none :: ([.fieldLink RX0 18 "StakeWeirs$Barge" "place" "I", .methodLink RX0 24 Lib.Math.min.name, .static Lib.Math.min.name, .initialized "java/lang/Math", .code Lib.Math.min.name Lib.Math.min.code 2 (some .int)] ++ wsX00)
def wsX2_init : List Cond := .code yX2_init cX2_init 1 none :: ([.methodLink RX2 3 objectInit, .instanceMethod objectInit, .code objectInit ⟨#[0xb1]⟩ 1 none])
def wsX1_init : List Cond := .code yX1_init cX1_init 2 none :: ([.methodLink RX1 3 objectInit, .instanceMethod objectInit, .code objectInit ⟨#[0xb1]⟩ 1 none, .arrayClass .int, .fieldLink RX1 9 "StakeWeirs$Estuary" "table" "[I", .fieldLink RX1 15 "StakeWeirs$Estuary" "order" "[I", .classLink RX1 18 RX2, .fieldLink RX1 20 "StakeWeirs$Estuary" "weirs" "[LStakeWeirs$Weir;", .instantiable RX2 8, .initialized RX2, .classLink RX1 25 RX0, .fieldLink RX1 27 "StakeWeirs$Estuary" "barges" "[LStakeWeirs$Barge;", .instantiable RX0 4, .initialized RX0, .instanceMethod yX2_init, .code yX2_init cX2_init 1 none, .methodLink RX2 3 objectInit, .instanceMethod yX0_init, .code yX0_init cX0_init 1 none, .methodLink RX0 3 objectInit] ++ wsX10 ++ wsX20 ++ wsX00)
def wsX1_tableEels : List Cond := .code yX1_tableEels cX1_tableEels 2 (some .int) :: ([.fieldLink RX1 9 "StakeWeirs$Estuary" "table" "[I"] ++ wsX10)
def wsX1_inOrder : List Cond := .code yX1_inOrder cX1_inOrder 2 (some .int) :: ([.fieldLink RX1 15 "StakeWeirs$Estuary" "order" "[I"] ++ wsX10)
def wsX1_weirAt : List Cond := .code yX1_weirAt cX1_weirAt 3 (some (.object "StakeWeirs$Weir")) :: ([.fieldLink RX1 39 "StakeWeirs$Estuary" "weirCount" "I", .fieldLink RX1 20 "StakeWeirs$Estuary" "weirs" "[LStakeWeirs$Weir;"] ++ wsX10)
def wsX2_copyFrom : List Cond := .code yX2_copyFrom cX2_copyFrom 2 none :: ([.fieldLink RX2 9 "StakeWeirs$Weir" "place" "I", .fieldLink RX2 15 "StakeWeirs$Weir" "stakes" "I", .fieldLink RX2 18 "StakeWeirs$Weir" "wattle" "I", .fieldLink RX2 21 "StakeWeirs$Weir" "rent" "I", .fieldLink RX2 24 "StakeWeirs$Weir" "coins" "I", .fieldLink RX2 27 "StakeWeirs$Weir" "eels" "I", .fieldLink RX2 30 "StakeWeirs$Weir" "open" "Z", .fieldLink RX2 34 "StakeWeirs$Weir" "owed" "I"] ++ wsX20)
def wsX1_copyWeir : List Cond := .code yX1_copyWeir cX1_copyWeir 2 none :: ([.methodLink RX1 74 yX2_copyFrom, .instanceMethod yX2_copyFrom, .selects RX2 yX2_copyFrom yX2_copyFrom, .initialized RX2, .code yX2_copyFrom cX2_copyFrom 2 none, .fieldLink RX2 9 "StakeWeirs$Weir" "place" "I", .fieldLink RX2 15 "StakeWeirs$Weir" "stakes" "I", .fieldLink RX2 18 "StakeWeirs$Weir" "wattle" "I", .fieldLink RX2 21 "StakeWeirs$Weir" "rent" "I", .fieldLink RX2 24 "StakeWeirs$Weir" "coins" "I", .fieldLink RX2 27 "StakeWeirs$Weir" "eels" "I", .fieldLink RX2 30 "StakeWeirs$Weir" "open" "Z", .fieldLink RX2 34 "StakeWeirs$Weir" "owed" "I"] ++ wsX20)
def wsX1_bargeAt : List Cond := .code yX1_bargeAt cX1_bargeAt 3 (some (.object "StakeWeirs$Barge")) :: ([.fieldLink RX1 51 "StakeWeirs$Estuary" "bargeCount" "I", .fieldLink RX1 27 "StakeWeirs$Estuary" "barges" "[LStakeWeirs$Barge;"] ++ wsX10)
def wsX1_copyBarge : List Cond := .code yX1_copyBarge cX1_copyBarge 2 none :: ([.methodLink RX1 78 yX0_copyFrom, .instanceMethod yX0_copyFrom, .selects RX0 yX0_copyFrom yX0_copyFrom, .initialized RX0, .code yX0_copyFrom cX0_copyFrom 2 none, .fieldLink RX0 9 "StakeWeirs$Barge" "ticket" "I", .fieldLink RX0 15 "StakeWeirs$Barge" "wide" "I", .fieldLink RX0 18 "StakeWeirs$Barge" "place" "I", .fieldLink RX0 21 "StakeWeirs$Barge" "broken" "I"] ++ wsX00)
def wsX1_copyFrom_r1 : List Cond := [Cond.fieldLink RX1 9 "StakeWeirs$Estuary" "table" "[I", Cond.fieldLink RX1 15 "StakeWeirs$Estuary" "order" "[I", Cond.fieldLink RX1 39 "StakeWeirs$Estuary" "weirCount" "I", Cond.fieldLink RX1 51 "StakeWeirs$Estuary" "bargeCount" "I", Cond.fieldLink RX1 62 "StakeWeirs$Estuary" "night" "I", Cond.fieldLink RX1 65 "StakeWeirs$Estuary" "arrived" "I", Cond.fieldLink RX1 68 "StakeWeirs$Estuary" "fines" "I", Cond.fieldLink RX1 71 "StakeWeirs$Estuary" "rents" "I", Cond.methodLink RX1 32 yX1_tableEels, Cond.instanceMethod yX1_tableEels, Cond.selects RX1 yX1_tableEels yX1_tableEels, Cond.initialized RX1, Cond.code yX1_tableEels cX1_tableEels 2 (some .int), Cond.methodLink RX1 36 yX1_inOrder, Cond.instanceMethod yX1_inOrder, Cond.selects RX1 yX1_inOrder yX1_inOrder, Cond.code yX1_inOrder cX1_inOrder 2 (some .int), Cond.methodLink RX1 43 yX1_weirAt, Cond.instanceMethod yX1_weirAt, Cond.selects RX1 yX1_weirAt yX1_weirAt, Cond.code yX1_weirAt cX1_weirAt 3 (some (.object "StakeWeirs$Weir")), Cond.fieldLink RX1 20 "StakeWeirs$Estuary" "weirs" "[LStakeWeirs$Weir;", Cond.methodLink RX1 47 yX1_copyWeir, Cond.static yX1_copyWeir]
def wsX1_copyFrom_r2 : List Cond := [Cond.code yX1_copyWeir cX1_copyWeir 2 none, Cond.methodLink RX1 74 yX2_copyFrom, Cond.instanceMethod yX2_copyFrom, Cond.selects RX2 yX2_copyFrom yX2_copyFrom, Cond.initialized RX2, Cond.code yX2_copyFrom cX2_copyFrom 2 none, Cond.fieldLink RX2 9 "StakeWeirs$Weir" "place" "I", Cond.fieldLink RX2 15 "StakeWeirs$Weir" "stakes" "I", Cond.fieldLink RX2 18 "StakeWeirs$Weir" "wattle" "I", Cond.fieldLink RX2 21 "StakeWeirs$Weir" "rent" "I", Cond.fieldLink RX2 24 "StakeWeirs$Weir" "coins" "I", Cond.fieldLink RX2 27 "StakeWeirs$Weir" "eels" "I", Cond.fieldLink RX2 30 "StakeWeirs$Weir" "open" "Z", Cond.fieldLink RX2 34 "StakeWeirs$Weir" "owed" "I", Cond.methodLink RX1 54 yX1_bargeAt, Cond.instanceMethod yX1_bargeAt, Cond.selects RX1 yX1_bargeAt yX1_bargeAt, Cond.code yX1_bargeAt cX1_bargeAt 3 (some (.object "StakeWeirs$Barge")), Cond.fieldLink RX1 27 "StakeWeirs$Estuary" "barges" "[LStakeWeirs$Barge;", Cond.methodLink RX1 58 yX1_copyBarge, Cond.static yX1_copyBarge, Cond.code yX1_copyBarge cX1_copyBarge 2 none, Cond.methodLink RX1 78 yX0_copyFrom, Cond.instanceMethod yX0_copyFrom]
def wsX1_copyFrom_r3 : List Cond := [Cond.selects RX0 yX0_copyFrom yX0_copyFrom, Cond.initialized RX0, Cond.code yX0_copyFrom cX0_copyFrom 2 none, Cond.fieldLink RX0 9 "StakeWeirs$Barge" "ticket" "I", Cond.fieldLink RX0 15 "StakeWeirs$Barge" "wide" "I", Cond.fieldLink RX0 18 "StakeWeirs$Barge" "place" "I", Cond.fieldLink RX0 21 "StakeWeirs$Barge" "broken" "I"]
def wsX1_copyFrom : List Cond := .code yX1_copyFrom cX1_copyFrom 3 none :: ((wsX1_copyFrom_r1 ++ (wsX1_copyFrom_r2 ++ wsX1_copyFrom_r3)) ++ wsX10 ++ wsX20 ++ wsX00)
def wsX1_setTableEels : List Cond := .code yX1_setTableEels cX1_setTableEels 3 none :: ([.fieldLink RX1 9 "StakeWeirs$Estuary" "table" "[I"] ++ wsX10)
def wsX1_isSeawardsOf : List Cond := .code yX1_isSeawardsOf cX1_isSeawardsOf 4 (some .boolean) :: ([.fieldLink RX1 93 "StakeWeirs$Weir" "place" "I", .methodLink RX1 43 yX1_weirAt, .instanceMethod yX1_weirAt, .selects RX1 yX1_weirAt yX1_weirAt, .initialized RX1, .code yX1_weirAt cX1_weirAt 3 (some (.object "StakeWeirs$Weir")), .fieldLink RX1 39 "StakeWeirs$Estuary" "weirCount" "I", .fieldLink RX1 20 "StakeWeirs$Estuary" "weirs" "[LStakeWeirs$Weir;"] ++ wsX20 ++ wsX10)
def wsX1_putInOrder : List Cond := .code yX1_putInOrder cX1_putInOrder 4 none :: ([.fieldLink RX1 15 "StakeWeirs$Estuary" "order" "[I", .methodLink RX1 89 yX1_isSeawardsOf, .instanceMethod yX1_isSeawardsOf, .selects RX1 yX1_isSeawardsOf yX1_isSeawardsOf, .initialized RX1, .code yX1_isSeawardsOf cX1_isSeawardsOf 4 (some .boolean), .fieldLink RX1 93 "StakeWeirs$Weir" "place" "I", .methodLink RX1 43 yX1_weirAt, .instanceMethod yX1_weirAt, .selects RX1 yX1_weirAt yX1_weirAt, .code yX1_weirAt cX1_weirAt 3 (some (.object "StakeWeirs$Weir")), .fieldLink RX1 39 "StakeWeirs$Estuary" "weirCount" "I", .fieldLink RX1 20 "StakeWeirs$Estuary" "weirs" "[LStakeWeirs$Weir;"] ++ wsX10 ++ wsX20)
def wsX2_makeNew : List Cond := .code yX2_makeNew cX2_makeNew 4 none :: ([.fieldLink RX2 9 "StakeWeirs$Weir" "place" "I", .fieldLink RX2 15 "StakeWeirs$Weir" "stakes" "I", .fieldLink RX2 18 "StakeWeirs$Weir" "wattle" "I", .fieldLink RX2 21 "StakeWeirs$Weir" "rent" "I", .fieldLink RX2 24 "StakeWeirs$Weir" "coins" "I", .fieldLink RX2 27 "StakeWeirs$Weir" "eels" "I", .fieldLink RX2 30 "StakeWeirs$Weir" "open" "Z", .fieldLink RX2 34 "StakeWeirs$Weir" "owed" "I"] ++ wsX20)
def wsX1_addWeir_r1 : List Cond := [Cond.fieldLink RX1 39 "StakeWeirs$Estuary" "weirCount" "I", Cond.methodLink RX1 81 yX1_putInOrder, Cond.instanceMethod yX1_putInOrder, Cond.selects RX1 yX1_putInOrder yX1_putInOrder, Cond.initialized RX1, Cond.code yX1_putInOrder cX1_putInOrder 4 none, Cond.fieldLink RX1 15 "StakeWeirs$Estuary" "order" "[I", Cond.methodLink RX1 89 yX1_isSeawardsOf, Cond.instanceMethod yX1_isSeawardsOf, Cond.selects RX1 yX1_isSeawardsOf yX1_isSeawardsOf, Cond.code yX1_isSeawardsOf cX1_isSeawardsOf 4 (some .boolean), Cond.fieldLink RX1 93 "StakeWeirs$Weir" "place" "I", Cond.methodLink RX1 43 yX1_weirAt, Cond.instanceMethod yX1_weirAt, Cond.selects RX1 yX1_weirAt yX1_weirAt, Cond.code yX1_weirAt cX1_weirAt 3 (some (.object "StakeWeirs$Weir")), Cond.fieldLink RX1 20 "StakeWeirs$Estuary" "weirs" "[LStakeWeirs$Weir;", Cond.methodLink RX1 85 yX2_makeNew, Cond.instanceMethod yX2_makeNew, Cond.selects RX2 yX2_makeNew yX2_makeNew, Cond.initialized RX2, Cond.code yX2_makeNew cX2_makeNew 4 none, Cond.fieldLink RX2 9 "StakeWeirs$Weir" "place" "I", Cond.fieldLink RX2 15 "StakeWeirs$Weir" "stakes" "I"]
def wsX1_addWeir_r2 : List Cond := [Cond.fieldLink RX2 18 "StakeWeirs$Weir" "wattle" "I", Cond.fieldLink RX2 21 "StakeWeirs$Weir" "rent" "I", Cond.fieldLink RX2 24 "StakeWeirs$Weir" "coins" "I", Cond.fieldLink RX2 27 "StakeWeirs$Weir" "eels" "I", Cond.fieldLink RX2 30 "StakeWeirs$Weir" "open" "Z", Cond.fieldLink RX2 34 "StakeWeirs$Weir" "owed" "I"]
def wsX1_addWeir : List Cond := .code yX1_addWeir cX1_addWeir 6 (some .int) :: ((wsX1_addWeir_r1 ++ wsX1_addWeir_r2) ++ wsX10 ++ wsX20)
def wsX1_addBarge : List Cond := .code yX1_addBarge cX1_addBarge 4 (some .int) :: ([.fieldLink RX1 51 "StakeWeirs$Estuary" "bargeCount" "I", .fieldLink RX1 65 "StakeWeirs$Estuary" "arrived" "I", .methodLink RX1 54 yX1_bargeAt, .instanceMethod yX1_bargeAt, .selects RX1 yX1_bargeAt yX1_bargeAt, .initialized RX1, .code yX1_bargeAt cX1_bargeAt 3 (some (.object "StakeWeirs$Barge")), .fieldLink RX1 27 "StakeWeirs$Estuary" "barges" "[LStakeWeirs$Barge;", .methodLink RX1 96 yX0_makeNew, .instanceMethod yX0_makeNew, .selects RX0 yX0_makeNew yX0_makeNew, .initialized RX0, .code yX0_makeNew cX0_makeNew 3 none, .fieldLink RX0 9 "StakeWeirs$Barge" "ticket" "I", .fieldLink RX0 15 "StakeWeirs$Barge" "wide" "I", .fieldLink RX0 18 "StakeWeirs$Barge" "place" "I", .fieldLink RX0 21 "StakeWeirs$Barge" "broken" "I"] ++ wsX10 ++ wsX00)
def wsX1_isUnderWay : List Cond := .code yX1_isUnderWay cX1_isUnderWay 4 (some .boolean) :: ([.fieldLink RX1 51 "StakeWeirs$Estuary" "bargeCount" "I", .fieldLink RX1 98 "StakeWeirs$Barge" "ticket" "I", .methodLink RX1 54 yX1_bargeAt, .instanceMethod yX1_bargeAt, .selects RX1 yX1_bargeAt yX1_bargeAt, .initialized RX1, .code yX1_bargeAt cX1_bargeAt 3 (some (.object "StakeWeirs$Barge")), .fieldLink RX1 27 "StakeWeirs$Estuary" "barges" "[LStakeWeirs$Barge;"] ++ wsX10 ++ wsX00)
def wsJ9_floorMod_7cf53 : List Cond := .code yJ9_floorMod_7cf53 cJ9_floorMod_7cf53 3 (some .int) :: ([])
def wsX1_moon : List Cond := .code yX1_moon cX1_moon 2 (some .int) :: ([.fieldLink RX1 62 "StakeWeirs$Estuary" "night" "I", .methodLink RX1 101 yJ9_floorMod_7cf53, .static yJ9_floorMod_7cf53, .initialized RJ9, .code yJ9_floorMod_7cf53 cJ9_floorMod_7cf53 3 (some .int)] ++ wsX10)
def wsX1_run : List Cond := .code yX1_run cX1_run 3 (some .int) :: ([.fieldLink RX1 62 "StakeWeirs$Estuary" "night" "I", .methodLink RX1 101 yJ9_floorMod_7cf53, .static yJ9_floorMod_7cf53, .initialized RJ9, .code yJ9_floorMod_7cf53 cJ9_floorMod_7cf53 3 (some .int), .methodLink RX1 32 yX1_tableEels, .instanceMethod yX1_tableEels, .selects RX1 yX1_tableEels yX1_tableEels, .initialized RX1, .code yX1_tableEels cX1_tableEels 2 (some .int), .fieldLink RX1 9 "StakeWeirs$Estuary" "table" "[I", .methodLink RX1 107 yX1_moon, .instanceMethod yX1_moon, .selects RX1 yX1_moon yX1_moon, .code yX1_moon cX1_moon 2 (some .int)] ++ wsX10)
def wsX2_isHeld : List Cond := .code yX2_isHeld cX2_isHeld 1 (some .boolean) :: ([.fieldLink RX2 34 "StakeWeirs$Weir" "owed" "I"] ++ wsX20)
def wsX1_heldWeirs : List Cond := .code yX1_heldWeirs cX1_heldWeirs 4 (some .int) :: ([.fieldLink RX1 39 "StakeWeirs$Estuary" "weirCount" "I", .methodLink RX1 43 yX1_weirAt, .instanceMethod yX1_weirAt, .selects RX1 yX1_weirAt yX1_weirAt, .initialized RX1, .code yX1_weirAt cX1_weirAt 3 (some (.object "StakeWeirs$Weir")), .fieldLink RX1 20 "StakeWeirs$Estuary" "weirs" "[LStakeWeirs$Weir;", .methodLink RX1 131 yX2_isHeld, .instanceMethod yX2_isHeld, .selects RX2 yX2_isHeld yX2_isHeld, .initialized RX2, .code yX2_isHeld cX2_isHeld 1 (some .boolean), .fieldLink RX2 34 "StakeWeirs$Weir" "owed" "I"] ++ wsX10 ++ wsX20)
def wsX1_allEels : List Cond := .code yX1_allEels cX1_allEels 4 (some .int) :: ([.fieldLink RX1 39 "StakeWeirs$Estuary" "weirCount" "I", .fieldLink RX1 138 "StakeWeirs$Weir" "eels" "I", .methodLink RX1 43 yX1_weirAt, .instanceMethod yX1_weirAt, .selects RX1 yX1_weirAt yX1_weirAt, .initialized RX1, .code yX1_weirAt cX1_weirAt 3 (some (.object "StakeWeirs$Weir")), .fieldLink RX1 20 "StakeWeirs$Estuary" "weirs" "[LStakeWeirs$Weir;"] ++ wsX10 ++ wsX20)
def wsX1_fact_r1 : List Cond := [Cond.fieldLink RX1 62 "StakeWeirs$Estuary" "night" "I", Cond.fieldLink RX1 39 "StakeWeirs$Estuary" "weirCount" "I", Cond.fieldLink RX1 51 "StakeWeirs$Estuary" "bargeCount" "I", Cond.fieldLink RX1 65 "StakeWeirs$Estuary" "arrived" "I", Cond.fieldLink RX1 68 "StakeWeirs$Estuary" "fines" "I", Cond.fieldLink RX1 71 "StakeWeirs$Estuary" "rents" "I", Cond.methodLink RX1 107 yX1_moon, Cond.instanceMethod yX1_moon, Cond.selects RX1 yX1_moon yX1_moon, Cond.initialized RX1, Cond.code yX1_moon cX1_moon 2 (some .int), Cond.methodLink RX1 101 yJ9_floorMod_7cf53, Cond.static yJ9_floorMod_7cf53, Cond.initialized RJ9, Cond.code yJ9_floorMod_7cf53 cJ9_floorMod_7cf53 3 (some .int), Cond.methodLink RX1 111 yX1_run, Cond.instanceMethod yX1_run, Cond.selects RX1 yX1_run yX1_run, Cond.code yX1_run cX1_run 3 (some .int), Cond.methodLink RX1 32 yX1_tableEels, Cond.instanceMethod yX1_tableEels, Cond.selects RX1 yX1_tableEels yX1_tableEels, Cond.code yX1_tableEels cX1_tableEels 2 (some .int), Cond.fieldLink RX1 9 "StakeWeirs$Estuary" "table" "[I"]
def wsX1_fact_r2 : List Cond := [Cond.methodLink RX1 114 yX1_heldWeirs, Cond.instanceMethod yX1_heldWeirs, Cond.selects RX1 yX1_heldWeirs yX1_heldWeirs, Cond.code yX1_heldWeirs cX1_heldWeirs 4 (some .int), Cond.methodLink RX1 43 yX1_weirAt, Cond.instanceMethod yX1_weirAt, Cond.selects RX1 yX1_weirAt yX1_weirAt, Cond.code yX1_weirAt cX1_weirAt 3 (some (.object "StakeWeirs$Weir")), Cond.fieldLink RX1 20 "StakeWeirs$Estuary" "weirs" "[LStakeWeirs$Weir;", Cond.methodLink RX1 131 yX2_isHeld, Cond.instanceMethod yX2_isHeld, Cond.selects RX2 yX2_isHeld yX2_isHeld, Cond.initialized RX2, Cond.code yX2_isHeld cX2_isHeld 1 (some .boolean), Cond.fieldLink RX2 34 "StakeWeirs$Weir" "owed" "I", Cond.methodLink RX1 117 yX1_allEels, Cond.instanceMethod yX1_allEels, Cond.selects RX1 yX1_allEels yX1_allEels, Cond.code yX1_allEels cX1_allEels 4 (some .int), Cond.fieldLink RX1 138 "StakeWeirs$Weir" "eels" "I"]
def wsX1_fact : List Cond := .code yX1_fact cX1_fact 2 (some .int) :: ((wsX1_fact_r1 ++ wsX1_fact_r2) ++ wsX10 ++ wsX20)
def wsX2_isFishing : List Cond := .code yX2_isFishing cX2_isFishing 1 (some .boolean) :: ([.fieldLink RX2 34 "StakeWeirs$Weir" "owed" "I", .fieldLink RX2 30 "StakeWeirs$Weir" "open" "Z"] ++ wsX20)
def wsX2_isInWay : List Cond := .code yX2_isInWay cX2_isInWay 2 (some .boolean) :: ([.fieldLink RX2 15 "StakeWeirs$Weir" "stakes" "I", .methodLink RX2 37 yX2_isFishing, .instanceMethod yX2_isFishing, .selects RX2 yX2_isFishing yX2_isFishing, .initialized RX2, .code yX2_isFishing cX2_isFishing 1 (some .boolean), .fieldLink RX2 34 "StakeWeirs$Weir" "owed" "I", .fieldLink RX2 30 "StakeWeirs$Weir" "open" "Z"] ++ wsX20)
def wsX1_nextInWay : List Cond := .code yX1_nextInWay cX1_nextInWay 6 (some .int) :: ([.fieldLink RX1 39 "StakeWeirs$Estuary" "weirCount" "I", .fieldLink RX1 93 "StakeWeirs$Weir" "place" "I", .fieldLink RX1 123 "StakeWeirs$Barge" "place" "I", .fieldLink RX1 120 "StakeWeirs$Barge" "wide" "I", .methodLink RX1 43 yX1_weirAt, .instanceMethod yX1_weirAt, .selects RX1 yX1_weirAt yX1_weirAt, .initialized RX1, .code yX1_weirAt cX1_weirAt 3 (some (.object "StakeWeirs$Weir")), .fieldLink RX1 20 "StakeWeirs$Estuary" "weirs" "[LStakeWeirs$Weir;", .methodLink RX1 141 yX2_isInWay, .instanceMethod yX2_isInWay, .selects RX2 yX2_isInWay yX2_isInWay, .initialized RX2, .code yX2_isInWay cX2_isInWay 2 (some .boolean), .fieldLink RX2 15 "StakeWeirs$Weir" "stakes" "I", .methodLink RX2 37 yX2_isFishing, .instanceMethod yX2_isFishing, .selects RX2 yX2_isFishing yX2_isFishing, .code yX2_isFishing cX2_isFishing 1 (some .boolean), .fieldLink RX2 34 "StakeWeirs$Weir" "owed" "I", .fieldLink RX2 30 "StakeWeirs$Weir" "open" "Z"] ++ wsX10 ++ wsX20 ++ wsX00)
def wsX1_bargeFact_r1 : List Cond := [Cond.fieldLink RX1 120 "StakeWeirs$Barge" "wide" "I", Cond.fieldLink RX1 123 "StakeWeirs$Barge" "place" "I", Cond.fieldLink RX1 124 "StakeWeirs$Barge" "broken" "I", Cond.methodLink RX1 127 yX1_nextInWay, Cond.instanceMethod yX1_nextInWay, Cond.selects RX1 yX1_nextInWay yX1_nextInWay, Cond.initialized RX1, Cond.code yX1_nextInWay cX1_nextInWay 6 (some .int), Cond.fieldLink RX1 39 "StakeWeirs$Estuary" "weirCount" "I", Cond.fieldLink RX1 93 "StakeWeirs$Weir" "place" "I", Cond.methodLink RX1 43 yX1_weirAt, Cond.instanceMethod yX1_weirAt, Cond.selects RX1 yX1_weirAt yX1_weirAt, Cond.code yX1_weirAt cX1_weirAt 3 (some (.object "StakeWeirs$Weir")), Cond.fieldLink RX1 20 "StakeWeirs$Estuary" "weirs" "[LStakeWeirs$Weir;", Cond.methodLink RX1 141 yX2_isInWay, Cond.instanceMethod yX2_isInWay, Cond.selects RX2 yX2_isInWay yX2_isInWay, Cond.initialized RX2, Cond.code yX2_isInWay cX2_isInWay 2 (some .boolean), Cond.fieldLink RX2 15 "StakeWeirs$Weir" "stakes" "I", Cond.methodLink RX2 37 yX2_isFishing, Cond.instanceMethod yX2_isFishing, Cond.selects RX2 yX2_isFishing yX2_isFishing]
def wsX1_bargeFact_r2 : List Cond := [Cond.code yX2_isFishing cX2_isFishing 1 (some .boolean), Cond.fieldLink RX2 34 "StakeWeirs$Weir" "owed" "I", Cond.fieldLink RX2 30 "StakeWeirs$Weir" "open" "Z"]
def wsX1_bargeFact : List Cond := .code yX1_bargeFact cX1_bargeFact 3 (some .int) :: ((wsX1_bargeFact_r1 ++ wsX1_bargeFact_r2) ++ wsX00 ++ wsX10 ++ wsX20)
def wsX1_heldWattle : List Cond := .code yX1_heldWattle cX1_heldWattle 4 (some .int) :: ([.fieldLink RX1 39 "StakeWeirs$Estuary" "weirCount" "I", .fieldLink RX1 135 "StakeWeirs$Weir" "wattle" "I", .methodLink RX1 43 yX1_weirAt, .instanceMethod yX1_weirAt, .selects RX1 yX1_weirAt yX1_weirAt, .initialized RX1, .code yX1_weirAt cX1_weirAt 3 (some (.object "StakeWeirs$Weir")), .fieldLink RX1 20 "StakeWeirs$Estuary" "weirs" "[LStakeWeirs$Weir;", .methodLink RX1 131 yX2_isHeld, .instanceMethod yX2_isHeld, .selects RX2 yX2_isHeld yX2_isHeld, .initialized RX2, .code yX2_isHeld cX2_isHeld 1 (some .boolean), .fieldLink RX2 34 "StakeWeirs$Weir" "owed" "I"] ++ wsX10 ++ wsX20)
def wsX1_weirsInWay : List Cond := .code yX1_weirsInWay cX1_weirsInWay 5 (some .int) :: ([.fieldLink RX1 39 "StakeWeirs$Estuary" "weirCount" "I", .methodLink RX1 43 yX1_weirAt, .instanceMethod yX1_weirAt, .selects RX1 yX1_weirAt yX1_weirAt, .initialized RX1, .code yX1_weirAt cX1_weirAt 3 (some (.object "StakeWeirs$Weir")), .fieldLink RX1 20 "StakeWeirs$Estuary" "weirs" "[LStakeWeirs$Weir;", .methodLink RX1 141 yX2_isInWay, .instanceMethod yX2_isInWay, .selects RX2 yX2_isInWay yX2_isInWay, .initialized RX2, .code yX2_isInWay cX2_isInWay 2 (some .boolean), .fieldLink RX2 15 "StakeWeirs$Weir" "stakes" "I", .methodLink RX2 37 yX2_isFishing, .instanceMethod yX2_isFishing, .selects RX2 yX2_isFishing yX2_isFishing, .code yX2_isFishing cX2_isFishing 1 (some .boolean), .fieldLink RX2 34 "StakeWeirs$Weir" "owed" "I", .fieldLink RX2 30 "StakeWeirs$Weir" "open" "Z"] ++ wsX10 ++ wsX20)
def wsX1_richestHeld : List Cond := .code yX1_richestHeld cX1_richestHeld 5 (some .int) :: ([.fieldLink RX1 39 "StakeWeirs$Estuary" "weirCount" "I", .fieldLink RX1 145 "StakeWeirs$Weir" "coins" "I", .methodLink RX1 43 yX1_weirAt, .instanceMethod yX1_weirAt, .selects RX1 yX1_weirAt yX1_weirAt, .initialized RX1, .code yX1_weirAt cX1_weirAt 3 (some (.object "StakeWeirs$Weir")), .fieldLink RX1 20 "StakeWeirs$Estuary" "weirs" "[LStakeWeirs$Weir;", .methodLink RX1 131 yX2_isHeld, .instanceMethod yX2_isHeld, .selects RX2 yX2_isHeld yX2_isHeld, .initialized RX2, .code yX2_isHeld cX2_isHeld 1 (some .boolean), .fieldLink RX2 34 "StakeWeirs$Weir" "owed" "I"] ++ wsX10 ++ wsX20)
def wsX2_catchOf : List Cond := .code yX2_catchOf cX2_catchOf 3 (some .int) :: ([.fieldLink RX2 15 "StakeWeirs$Weir" "stakes" "I", .fieldLink RX2 18 "StakeWeirs$Weir" "wattle" "I", .fieldLink RX2 27 "StakeWeirs$Weir" "eels" "I", .methodLink RX2 41 Lib.Math.min.name, .static Lib.Math.min.name, .initialized "java/lang/Math", .code Lib.Math.min.name Lib.Math.min.code 2 (some .int)] ++ wsX20)
def wsX1_catchEels_r1 : List Cond := [Cond.fieldLink RX1 39 "StakeWeirs$Estuary" "weirCount" "I", Cond.methodLink RX1 111 yX1_run, Cond.instanceMethod yX1_run, Cond.selects RX1 yX1_run yX1_run, Cond.initialized RX1, Cond.code yX1_run cX1_run 3 (some .int), Cond.fieldLink RX1 62 "StakeWeirs$Estuary" "night" "I", Cond.methodLink RX1 101 yJ9_floorMod_7cf53, Cond.static yJ9_floorMod_7cf53, Cond.initialized RJ9, Cond.code yJ9_floorMod_7cf53 cJ9_floorMod_7cf53 3 (some .int), Cond.methodLink RX1 32 yX1_tableEels, Cond.instanceMethod yX1_tableEels, Cond.selects RX1 yX1_tableEels yX1_tableEels, Cond.code yX1_tableEels cX1_tableEels 2 (some .int), Cond.fieldLink RX1 9 "StakeWeirs$Estuary" "table" "[I", Cond.methodLink RX1 107 yX1_moon, Cond.instanceMethod yX1_moon, Cond.selects RX1 yX1_moon yX1_moon, Cond.code yX1_moon cX1_moon 2 (some .int), Cond.methodLink RX1 36 yX1_inOrder, Cond.instanceMethod yX1_inOrder, Cond.selects RX1 yX1_inOrder yX1_inOrder, Cond.code yX1_inOrder cX1_inOrder 2 (some .int)]
def wsX1_catchEels_r2 : List Cond := [Cond.fieldLink RX1 15 "StakeWeirs$Estuary" "order" "[I", Cond.methodLink RX1 43 yX1_weirAt, Cond.instanceMethod yX1_weirAt, Cond.selects RX1 yX1_weirAt yX1_weirAt, Cond.code yX1_weirAt cX1_weirAt 3 (some (.object "StakeWeirs$Weir")), Cond.fieldLink RX1 20 "StakeWeirs$Estuary" "weirs" "[LStakeWeirs$Weir;", Cond.methodLink RX1 163 yX2_isFishing, Cond.instanceMethod yX2_isFishing, Cond.selects RX2 yX2_isFishing yX2_isFishing, Cond.initialized RX2, Cond.code yX2_isFishing cX2_isFishing 1 (some .boolean), Cond.fieldLink RX2 34 "StakeWeirs$Weir" "owed" "I", Cond.fieldLink RX2 30 "StakeWeirs$Weir" "open" "Z", Cond.methodLink RX1 166 yX2_catchOf, Cond.instanceMethod yX2_catchOf, Cond.selects RX2 yX2_catchOf yX2_catchOf, Cond.code yX2_catchOf cX2_catchOf 3 (some .int), Cond.fieldLink RX2 15 "StakeWeirs$Weir" "stakes" "I", Cond.fieldLink RX2 18 "StakeWeirs$Weir" "wattle" "I", Cond.fieldLink RX2 27 "StakeWeirs$Weir" "eels" "I", Cond.methodLink RX2 41 Lib.Math.min.name, Cond.static Lib.Math.min.name, Cond.initialized "java/lang/Math", Cond.code Lib.Math.min.name Lib.Math.min.code 2 (some .int)]
def wsX1_catchEels : List Cond := .code yX1_catchEels cX1_catchEels 4 none :: ((wsX1_catchEels_r1 ++ wsX1_catchEels_r2) ++ wsX10 ++ wsX20)
def wsX2_loseWattle : List Cond := .code yX2_loseWattle cX2_loseWattle 2 none :: ([.fieldLink RX2 18 "StakeWeirs$Weir" "wattle" "I"] ++ wsX20)
def wsX2_breakFor : List Cond := .code yX2_breakFor cX2_breakFor 3 (some .int) :: ([.fieldLink RX2 15 "StakeWeirs$Weir" "stakes" "I", .fieldLink RX2 24 "StakeWeirs$Weir" "coins" "I", .methodLink RX2 41 Lib.Math.min.name, .static Lib.Math.min.name, .initialized "java/lang/Math", .code Lib.Math.min.name Lib.Math.min.code 2 (some .int), .methodLink RX2 47 yX2_loseWattle, .instanceMethod yX2_loseWattle, .selects RX2 yX2_loseWattle yX2_loseWattle, .initialized RX2, .code yX2_loseWattle cX2_loseWattle 2 none, .fieldLink RX2 18 "StakeWeirs$Weir" "wattle" "I"] ++ wsX20)
def wsX1_breakThrough_r1 : List Cond := [Cond.fieldLink RX1 39 "StakeWeirs$Estuary" "weirCount" "I", Cond.fieldLink RX1 93 "StakeWeirs$Weir" "place" "I", Cond.fieldLink RX1 123 "StakeWeirs$Barge" "place" "I", Cond.fieldLink RX1 120 "StakeWeirs$Barge" "wide" "I", Cond.fieldLink RX1 68 "StakeWeirs$Estuary" "fines" "I", Cond.fieldLink RX1 124 "StakeWeirs$Barge" "broken" "I", Cond.methodLink RX1 43 yX1_weirAt, Cond.instanceMethod yX1_weirAt, Cond.selects RX1 yX1_weirAt yX1_weirAt, Cond.initialized RX1, Cond.code yX1_weirAt cX1_weirAt 3 (some (.object "StakeWeirs$Weir")), Cond.fieldLink RX1 20 "StakeWeirs$Estuary" "weirs" "[LStakeWeirs$Weir;", Cond.methodLink RX1 141 yX2_isInWay, Cond.instanceMethod yX2_isInWay, Cond.selects RX2 yX2_isInWay yX2_isInWay, Cond.initialized RX2, Cond.code yX2_isInWay cX2_isInWay 2 (some .boolean), Cond.fieldLink RX2 15 "StakeWeirs$Weir" "stakes" "I", Cond.methodLink RX2 37 yX2_isFishing, Cond.instanceMethod yX2_isFishing, Cond.selects RX2 yX2_isFishing yX2_isFishing, Cond.code yX2_isFishing cX2_isFishing 1 (some .boolean), Cond.fieldLink RX2 34 "StakeWeirs$Weir" "owed" "I", Cond.fieldLink RX2 30 "StakeWeirs$Weir" "open" "Z"]
def wsX1_breakThrough_r2 : List Cond := [Cond.methodLink RX1 176 yX2_breakFor, Cond.instanceMethod yX2_breakFor, Cond.selects RX2 yX2_breakFor yX2_breakFor, Cond.code yX2_breakFor cX2_breakFor 3 (some .int), Cond.fieldLink RX2 24 "StakeWeirs$Weir" "coins" "I", Cond.methodLink RX2 41 Lib.Math.min.name, Cond.static Lib.Math.min.name, Cond.initialized "java/lang/Math", Cond.code Lib.Math.min.name Lib.Math.min.code 2 (some .int), Cond.methodLink RX2 47 yX2_loseWattle, Cond.instanceMethod yX2_loseWattle, Cond.selects RX2 yX2_loseWattle yX2_loseWattle, Cond.code yX2_loseWattle cX2_loseWattle 2 none, Cond.fieldLink RX2 18 "StakeWeirs$Weir" "wattle" "I"]
def wsX1_breakThrough : List Cond := .code yX1_breakThrough cX1_breakThrough 4 none :: ((wsX1_breakThrough_r1 ++ wsX1_breakThrough_r2) ++ wsX10 ++ wsX20 ++ wsX00)
def wsX1_moveBarges_r1 : List Cond := [Cond.fieldLink RX1 51 "StakeWeirs$Estuary" "bargeCount" "I", Cond.fieldLink RX1 93 "StakeWeirs$Weir" "place" "I", Cond.methodLink RX1 54 yX1_bargeAt, Cond.instanceMethod yX1_bargeAt, Cond.selects RX1 yX1_bargeAt yX1_bargeAt, Cond.initialized RX1, Cond.code yX1_bargeAt cX1_bargeAt 3 (some (.object "StakeWeirs$Barge")), Cond.fieldLink RX1 27 "StakeWeirs$Estuary" "barges" "[LStakeWeirs$Barge;", Cond.methodLink RX1 127 yX1_nextInWay, Cond.instanceMethod yX1_nextInWay, Cond.selects RX1 yX1_nextInWay yX1_nextInWay, Cond.code yX1_nextInWay cX1_nextInWay 6 (some .int), Cond.fieldLink RX1 39 "StakeWeirs$Estuary" "weirCount" "I", Cond.fieldLink RX1 123 "StakeWeirs$Barge" "place" "I", Cond.fieldLink RX1 120 "StakeWeirs$Barge" "wide" "I", Cond.methodLink RX1 43 yX1_weirAt, Cond.instanceMethod yX1_weirAt, Cond.selects RX1 yX1_weirAt yX1_weirAt, Cond.code yX1_weirAt cX1_weirAt 3 (some (.object "StakeWeirs$Weir")), Cond.fieldLink RX1 20 "StakeWeirs$Estuary" "weirs" "[LStakeWeirs$Weir;", Cond.methodLink RX1 141 yX2_isInWay, Cond.instanceMethod yX2_isInWay, Cond.selects RX2 yX2_isInWay yX2_isInWay, Cond.initialized RX2]
def wsX1_moveBarges_r2 : List Cond := [Cond.code yX2_isInWay cX2_isInWay 2 (some .boolean), Cond.fieldLink RX2 15 "StakeWeirs$Weir" "stakes" "I", Cond.methodLink RX2 37 yX2_isFishing, Cond.instanceMethod yX2_isFishing, Cond.selects RX2 yX2_isFishing yX2_isFishing, Cond.code yX2_isFishing cX2_isFishing 1 (some .boolean), Cond.fieldLink RX2 34 "StakeWeirs$Weir" "owed" "I", Cond.fieldLink RX2 30 "StakeWeirs$Weir" "open" "Z", Cond.methodLink RX1 169 yX0_goOn, Cond.instanceMethod yX0_goOn, Cond.selects RX0 yX0_goOn yX0_goOn, Cond.initialized RX0, Cond.code yX0_goOn cX0_goOn 2 none, Cond.fieldLink RX0 18 "StakeWeirs$Barge" "place" "I", Cond.methodLink RX0 24 Lib.Math.min.name, Cond.static Lib.Math.min.name, Cond.initialized "java/lang/Math", Cond.code Lib.Math.min.name Lib.Math.min.code 2 (some .int), Cond.methodLink RX1 173 yX1_breakThrough, Cond.instanceMethod yX1_breakThrough, Cond.selects RX1 yX1_breakThrough yX1_breakThrough, Cond.code yX1_breakThrough cX1_breakThrough 4 none, Cond.fieldLink RX1 68 "StakeWeirs$Estuary" "fines" "I", Cond.fieldLink RX1 124 "StakeWeirs$Barge" "broken" "I"]
def wsX1_moveBarges_r3 : List Cond := [Cond.methodLink RX1 176 yX2_breakFor, Cond.instanceMethod yX2_breakFor, Cond.selects RX2 yX2_breakFor yX2_breakFor, Cond.code yX2_breakFor cX2_breakFor 3 (some .int), Cond.fieldLink RX2 24 "StakeWeirs$Weir" "coins" "I", Cond.methodLink RX2 41 Lib.Math.min.name, Cond.methodLink RX2 47 yX2_loseWattle, Cond.instanceMethod yX2_loseWattle, Cond.selects RX2 yX2_loseWattle yX2_loseWattle, Cond.code yX2_loseWattle cX2_loseWattle 2 none, Cond.fieldLink RX2 18 "StakeWeirs$Weir" "wattle" "I"]
def wsX1_moveBarges : List Cond := .code yX1_moveBarges cX1_moveBarges 4 none :: ((wsX1_moveBarges_r1 ++ (wsX1_moveBarges_r2 ++ wsX1_moveBarges_r3)) ++ wsX10 ++ wsX20 ++ wsX00)
def wsX1_leaveOutArrived : List Cond := .code yX1_leaveOutArrived cX1_leaveOutArrived 4 none :: ([.fieldLink RX1 51 "StakeWeirs$Estuary" "bargeCount" "I", .fieldLink RX1 123 "StakeWeirs$Barge" "place" "I", .fieldLink RX1 65 "StakeWeirs$Estuary" "arrived" "I", .methodLink RX1 54 yX1_bargeAt, .instanceMethod yX1_bargeAt, .selects RX1 yX1_bargeAt yX1_bargeAt, .initialized RX1, .code yX1_bargeAt cX1_bargeAt 3 (some (.object "StakeWeirs$Barge")), .fieldLink RX1 27 "StakeWeirs$Estuary" "barges" "[LStakeWeirs$Barge;", .methodLink RX1 58 yX1_copyBarge, .static yX1_copyBarge, .code yX1_copyBarge cX1_copyBarge 2 none, .methodLink RX1 78 yX0_copyFrom, .instanceMethod yX0_copyFrom, .selects RX0 yX0_copyFrom yX0_copyFrom, .initialized RX0, .code yX0_copyFrom cX0_copyFrom 2 none, .fieldLink RX0 9 "StakeWeirs$Barge" "ticket" "I", .fieldLink RX0 15 "StakeWeirs$Barge" "wide" "I", .fieldLink RX0 18 "StakeWeirs$Barge" "place" "I", .fieldLink RX0 21 "StakeWeirs$Barge" "broken" "I"] ++ wsX10 ++ wsX00)
def wsX1_rotWattle_r1 : List Cond := [Cond.fieldLink RX1 39 "StakeWeirs$Estuary" "weirCount" "I", Cond.methodLink RX1 107 yX1_moon, Cond.instanceMethod yX1_moon, Cond.selects RX1 yX1_moon yX1_moon, Cond.initialized RX1, Cond.code yX1_moon cX1_moon 2 (some .int), Cond.fieldLink RX1 62 "StakeWeirs$Estuary" "night" "I", Cond.methodLink RX1 101 yJ9_floorMod_7cf53, Cond.static yJ9_floorMod_7cf53, Cond.initialized RJ9, Cond.code yJ9_floorMod_7cf53 cJ9_floorMod_7cf53 3 (some .int), Cond.methodLink RX1 43 yX1_weirAt, Cond.instanceMethod yX1_weirAt, Cond.selects RX1 yX1_weirAt yX1_weirAt, Cond.code yX1_weirAt cX1_weirAt 3 (some (.object "StakeWeirs$Weir")), Cond.fieldLink RX1 20 "StakeWeirs$Estuary" "weirs" "[LStakeWeirs$Weir;", Cond.methodLink RX1 131 yX2_isHeld, Cond.instanceMethod yX2_isHeld, Cond.selects RX2 yX2_isHeld yX2_isHeld, Cond.initialized RX2, Cond.code yX2_isHeld cX2_isHeld 1 (some .boolean), Cond.fieldLink RX2 34 "StakeWeirs$Weir" "owed" "I", Cond.methodLink RX1 179 yX2_loseWattle, Cond.instanceMethod yX2_loseWattle]
def wsX1_rotWattle_r2 : List Cond := [Cond.selects RX2 yX2_loseWattle yX2_loseWattle, Cond.code yX2_loseWattle cX2_loseWattle 2 none, Cond.fieldLink RX2 18 "StakeWeirs$Weir" "wattle" "I"]
def wsX1_rotWattle : List Cond := .code yX1_rotWattle cX1_rotWattle 4 none :: ((wsX1_rotWattle_r1 ++ wsX1_rotWattle_r2) ++ wsX10 ++ wsX20)
def wsX2_payRent : List Cond := .code yX2_payRent cX2_payRent 1 (some .int) :: ([.fieldLink RX2 24 "StakeWeirs$Weir" "coins" "I", .fieldLink RX2 21 "StakeWeirs$Weir" "rent" "I", .fieldLink RX2 34 "StakeWeirs$Weir" "owed" "I", .fieldLink RX2 27 "StakeWeirs$Weir" "eels" "I"] ++ wsX20)
def wsX1_collectRents : List Cond := .code yX1_collectRents cX1_collectRents 3 none :: ([.fieldLink RX1 39 "StakeWeirs$Estuary" "weirCount" "I", .fieldLink RX1 71 "StakeWeirs$Estuary" "rents" "I", .methodLink RX1 43 yX1_weirAt, .instanceMethod yX1_weirAt, .selects RX1 yX1_weirAt yX1_weirAt, .initialized RX1, .code yX1_weirAt cX1_weirAt 3 (some (.object "StakeWeirs$Weir")), .fieldLink RX1 20 "StakeWeirs$Estuary" "weirs" "[LStakeWeirs$Weir;", .methodLink RX1 131 yX2_isHeld, .instanceMethod yX2_isHeld, .selects RX2 yX2_isHeld yX2_isHeld, .initialized RX2, .code yX2_isHeld cX2_isHeld 1 (some .boolean), .fieldLink RX2 34 "StakeWeirs$Weir" "owed" "I", .methodLink RX1 182 yX2_payRent, .instanceMethod yX2_payRent, .selects RX2 yX2_payRent yX2_payRent, .code yX2_payRent cX2_payRent 1 (some .int), .fieldLink RX2 24 "StakeWeirs$Weir" "coins" "I", .fieldLink RX2 21 "StakeWeirs$Weir" "rent" "I", .fieldLink RX2 27 "StakeWeirs$Weir" "eels" "I"] ++ wsX10 ++ wsX20)
def wsX1_goThroughNights_r1 : List Cond := [Cond.fieldLink RX1 62 "StakeWeirs$Estuary" "night" "I", Cond.methodLink RX1 148 yX1_catchEels, Cond.instanceMethod yX1_catchEels, Cond.selects RX1 yX1_catchEels yX1_catchEels, Cond.initialized RX1, Cond.code yX1_catchEels cX1_catchEels 4 none, Cond.fieldLink RX1 39 "StakeWeirs$Estuary" "weirCount" "I", Cond.methodLink RX1 111 yX1_run, Cond.instanceMethod yX1_run, Cond.selects RX1 yX1_run yX1_run, Cond.code yX1_run cX1_run 3 (some .int), Cond.methodLink RX1 101 yJ9_floorMod_7cf53, Cond.static yJ9_floorMod_7cf53, Cond.initialized RJ9, Cond.code yJ9_floorMod_7cf53 cJ9_floorMod_7cf53 3 (some .int), Cond.methodLink RX1 32 yX1_tableEels, Cond.instanceMethod yX1_tableEels, Cond.selects RX1 yX1_tableEels yX1_tableEels, Cond.code yX1_tableEels cX1_tableEels 2 (some .int), Cond.fieldLink RX1 9 "StakeWeirs$Estuary" "table" "[I", Cond.methodLink RX1 107 yX1_moon, Cond.instanceMethod yX1_moon, Cond.selects RX1 yX1_moon yX1_moon, Cond.code yX1_moon cX1_moon 2 (some .int)]
def wsX1_goThroughNights_r2 : List Cond := [Cond.methodLink RX1 36 yX1_inOrder, Cond.instanceMethod yX1_inOrder, Cond.selects RX1 yX1_inOrder yX1_inOrder, Cond.code yX1_inOrder cX1_inOrder 2 (some .int), Cond.fieldLink RX1 15 "StakeWeirs$Estuary" "order" "[I", Cond.methodLink RX1 43 yX1_weirAt, Cond.instanceMethod yX1_weirAt, Cond.selects RX1 yX1_weirAt yX1_weirAt, Cond.code yX1_weirAt cX1_weirAt 3 (some (.object "StakeWeirs$Weir")), Cond.fieldLink RX1 20 "StakeWeirs$Estuary" "weirs" "[LStakeWeirs$Weir;", Cond.methodLink RX1 163 yX2_isFishing, Cond.instanceMethod yX2_isFishing, Cond.selects RX2 yX2_isFishing yX2_isFishing, Cond.initialized RX2, Cond.code yX2_isFishing cX2_isFishing 1 (some .boolean), Cond.fieldLink RX2 34 "StakeWeirs$Weir" "owed" "I", Cond.fieldLink RX2 30 "StakeWeirs$Weir" "open" "Z", Cond.methodLink RX1 166 yX2_catchOf, Cond.instanceMethod yX2_catchOf, Cond.selects RX2 yX2_catchOf yX2_catchOf, Cond.code yX2_catchOf cX2_catchOf 3 (some .int), Cond.fieldLink RX2 15 "StakeWeirs$Weir" "stakes" "I", Cond.fieldLink RX2 18 "StakeWeirs$Weir" "wattle" "I", Cond.fieldLink RX2 27 "StakeWeirs$Weir" "eels" "I"]
def wsX1_goThroughNights_r3 : List Cond := [Cond.methodLink RX2 41 Lib.Math.min.name, Cond.static Lib.Math.min.name, Cond.initialized "java/lang/Math", Cond.code Lib.Math.min.name Lib.Math.min.code 2 (some .int), Cond.methodLink RX1 151 yX1_moveBarges, Cond.instanceMethod yX1_moveBarges, Cond.selects RX1 yX1_moveBarges yX1_moveBarges, Cond.code yX1_moveBarges cX1_moveBarges 4 none, Cond.fieldLink RX1 51 "StakeWeirs$Estuary" "bargeCount" "I", Cond.fieldLink RX1 93 "StakeWeirs$Weir" "place" "I", Cond.methodLink RX1 54 yX1_bargeAt, Cond.instanceMethod yX1_bargeAt, Cond.selects RX1 yX1_bargeAt yX1_bargeAt, Cond.code yX1_bargeAt cX1_bargeAt 3 (some (.object "StakeWeirs$Barge")), Cond.fieldLink RX1 27 "StakeWeirs$Estuary" "barges" "[LStakeWeirs$Barge;", Cond.methodLink RX1 127 yX1_nextInWay, Cond.instanceMethod yX1_nextInWay, Cond.selects RX1 yX1_nextInWay yX1_nextInWay, Cond.code yX1_nextInWay cX1_nextInWay 6 (some .int), Cond.fieldLink RX1 123 "StakeWeirs$Barge" "place" "I", Cond.fieldLink RX1 120 "StakeWeirs$Barge" "wide" "I", Cond.methodLink RX1 141 yX2_isInWay, Cond.instanceMethod yX2_isInWay, Cond.selects RX2 yX2_isInWay yX2_isInWay]
def wsX1_goThroughNights_r4 : List Cond := [Cond.code yX2_isInWay cX2_isInWay 2 (some .boolean), Cond.methodLink RX2 37 yX2_isFishing, Cond.methodLink RX1 169 yX0_goOn, Cond.instanceMethod yX0_goOn, Cond.selects RX0 yX0_goOn yX0_goOn, Cond.initialized RX0, Cond.code yX0_goOn cX0_goOn 2 none, Cond.fieldLink RX0 18 "StakeWeirs$Barge" "place" "I", Cond.methodLink RX0 24 Lib.Math.min.name, Cond.methodLink RX1 173 yX1_breakThrough, Cond.instanceMethod yX1_breakThrough, Cond.selects RX1 yX1_breakThrough yX1_breakThrough, Cond.code yX1_breakThrough cX1_breakThrough 4 none, Cond.fieldLink RX1 68 "StakeWeirs$Estuary" "fines" "I", Cond.fieldLink RX1 124 "StakeWeirs$Barge" "broken" "I", Cond.methodLink RX1 176 yX2_breakFor, Cond.instanceMethod yX2_breakFor, Cond.selects RX2 yX2_breakFor yX2_breakFor, Cond.code yX2_breakFor cX2_breakFor 3 (some .int), Cond.fieldLink RX2 24 "StakeWeirs$Weir" "coins" "I", Cond.methodLink RX2 47 yX2_loseWattle, Cond.instanceMethod yX2_loseWattle, Cond.selects RX2 yX2_loseWattle yX2_loseWattle, Cond.code yX2_loseWattle cX2_loseWattle 2 none]
def wsX1_goThroughNights_r5 : List Cond := [Cond.methodLink RX1 154 yX1_leaveOutArrived, Cond.instanceMethod yX1_leaveOutArrived, Cond.selects RX1 yX1_leaveOutArrived yX1_leaveOutArrived, Cond.code yX1_leaveOutArrived cX1_leaveOutArrived 4 none, Cond.fieldLink RX1 65 "StakeWeirs$Estuary" "arrived" "I", Cond.methodLink RX1 58 yX1_copyBarge, Cond.static yX1_copyBarge, Cond.code yX1_copyBarge cX1_copyBarge 2 none, Cond.methodLink RX1 78 yX0_copyFrom, Cond.instanceMethod yX0_copyFrom, Cond.selects RX0 yX0_copyFrom yX0_copyFrom, Cond.code yX0_copyFrom cX0_copyFrom 2 none, Cond.fieldLink RX0 9 "StakeWeirs$Barge" "ticket" "I", Cond.fieldLink RX0 15 "StakeWeirs$Barge" "wide" "I", Cond.fieldLink RX0 21 "StakeWeirs$Barge" "broken" "I", Cond.methodLink RX1 157 yX1_rotWattle, Cond.instanceMethod yX1_rotWattle, Cond.selects RX1 yX1_rotWattle yX1_rotWattle, Cond.code yX1_rotWattle cX1_rotWattle 4 none, Cond.methodLink RX1 131 yX2_isHeld, Cond.instanceMethod yX2_isHeld, Cond.selects RX2 yX2_isHeld yX2_isHeld, Cond.code yX2_isHeld cX2_isHeld 1 (some .boolean), Cond.methodLink RX1 179 yX2_loseWattle]
def wsX1_goThroughNights_r6 : List Cond := [Cond.methodLink RX1 160 yX1_collectRents, Cond.instanceMethod yX1_collectRents, Cond.selects RX1 yX1_collectRents yX1_collectRents, Cond.code yX1_collectRents cX1_collectRents 3 none, Cond.fieldLink RX1 71 "StakeWeirs$Estuary" "rents" "I", Cond.methodLink RX1 182 yX2_payRent, Cond.instanceMethod yX2_payRent, Cond.selects RX2 yX2_payRent yX2_payRent, Cond.code yX2_payRent cX2_payRent 1 (some .int), Cond.fieldLink RX2 21 "StakeWeirs$Weir" "rent" "I"]
def wsX1_goThroughNights : List Cond := .code yX1_goThroughNights cX1_goThroughNights 3 none :: ((wsX1_goThroughNights_r1 ++ (wsX1_goThroughNights_r2 ++ (wsX1_goThroughNights_r3 ++ (wsX1_goThroughNights_r4 ++ (wsX1_goThroughNights_r5 ++ wsX1_goThroughNights_r6))))) ++ wsX10 ++ wsX20 ++ wsX00)
def wsX2_fact : List Cond := .code yX2_fact cX2_fact 2 (some .int) :: ([.fieldLink RX2 9 "StakeWeirs$Weir" "place" "I", .fieldLink RX2 15 "StakeWeirs$Weir" "stakes" "I", .fieldLink RX2 18 "StakeWeirs$Weir" "wattle" "I", .fieldLink RX2 21 "StakeWeirs$Weir" "rent" "I", .fieldLink RX2 24 "StakeWeirs$Weir" "coins" "I", .fieldLink RX2 27 "StakeWeirs$Weir" "eels" "I", .fieldLink RX2 30 "StakeWeirs$Weir" "open" "Z", .fieldLink RX2 34 "StakeWeirs$Weir" "owed" "I"] ++ wsX20)
def wsX3_init_r1 : List Cond := [Cond.methodLink RX3 3 objectInit, Cond.instanceMethod objectInit, Cond.code objectInit ⟨#[0xb1]⟩ 1 none, Cond.classLink RX3 9 RX1, Cond.instantiable RX1 10, Cond.initialized RX1, Cond.fieldLink RX3 12 "StakeWeirs" "now" "LStakeWeirs$Estuary;", Cond.fieldLink RX3 16 "StakeWeirs" "trial" "LStakeWeirs$Estuary;", Cond.methodLink RX3 11 yX1_init, Cond.instanceMethod yX1_init, Cond.code yX1_init cX1_init 2 none, Cond.methodLink RX1 3 objectInit, Cond.arrayClass .int, Cond.fieldLink RX1 9 "StakeWeirs$Estuary" "table" "[I", Cond.fieldLink RX1 15 "StakeWeirs$Estuary" "order" "[I", Cond.classLink RX1 18 RX2, Cond.fieldLink RX1 20 "StakeWeirs$Estuary" "weirs" "[LStakeWeirs$Weir;", Cond.instantiable RX2 8, Cond.initialized RX2, Cond.classLink RX1 25 RX0, Cond.fieldLink RX1 27 "StakeWeirs$Estuary" "barges" "[LStakeWeirs$Barge;", Cond.instantiable RX0 4, Cond.initialized RX0, Cond.instanceMethod yX2_init]
def wsX3_init_r2 : List Cond := [Cond.code yX2_init cX2_init 1 none, Cond.methodLink RX2 3 objectInit, Cond.instanceMethod yX0_init, Cond.code yX0_init cX0_init 1 none, Cond.methodLink RX0 3 objectInit]
def wsX3_init : List Cond := .code yX3_init cX3_init 1 none :: ((wsX3_init_r1 ++ wsX3_init_r2) ++ wsX10 ++ wsX30 ++ wsX20 ++ wsX00)
def wsX3_isWithin : List Cond := .code yX3_isWithin cX3_isWithin 3 (some .boolean) :: ([])
def wsX3_weir_r1 : List Cond := [Cond.classLink RX3 23 "java/lang/IllegalArgumentException", Cond.initialized "java/lang/IllegalArgumentException", Cond.classLink RX3 34 "java/lang/IllegalStateException", Cond.initialized "java/lang/IllegalStateException", Cond.fieldLink RX3 12 "StakeWeirs" "now" "LStakeWeirs$Estuary;", Cond.fieldLink RX3 30 "StakeWeirs$Estuary" "weirCount" "I", Cond.methodLink RX3 19 yX3_isWithin, Cond.static yX3_isWithin, Cond.initialized RX3, Cond.code yX3_isWithin cX3_isWithin 3 (some .boolean), Cond.methodLink RX3 39 yX1_addWeir, Cond.instanceMethod yX1_addWeir, Cond.selects RX1 yX1_addWeir yX1_addWeir, Cond.initialized RX1, Cond.code yX1_addWeir cX1_addWeir 6 (some .int), Cond.fieldLink RX1 39 "StakeWeirs$Estuary" "weirCount" "I", Cond.methodLink RX1 81 yX1_putInOrder, Cond.instanceMethod yX1_putInOrder, Cond.selects RX1 yX1_putInOrder yX1_putInOrder, Cond.code yX1_putInOrder cX1_putInOrder 4 none, Cond.fieldLink RX1 15 "StakeWeirs$Estuary" "order" "[I", Cond.methodLink RX1 89 yX1_isSeawardsOf, Cond.instanceMethod yX1_isSeawardsOf, Cond.selects RX1 yX1_isSeawardsOf yX1_isSeawardsOf]
def wsX3_weir_r2 : List Cond := [Cond.code yX1_isSeawardsOf cX1_isSeawardsOf 4 (some .boolean), Cond.fieldLink RX1 93 "StakeWeirs$Weir" "place" "I", Cond.methodLink RX1 43 yX1_weirAt, Cond.instanceMethod yX1_weirAt, Cond.selects RX1 yX1_weirAt yX1_weirAt, Cond.code yX1_weirAt cX1_weirAt 3 (some (.object "StakeWeirs$Weir")), Cond.fieldLink RX1 20 "StakeWeirs$Estuary" "weirs" "[LStakeWeirs$Weir;", Cond.methodLink RX1 85 yX2_makeNew, Cond.instanceMethod yX2_makeNew, Cond.selects RX2 yX2_makeNew yX2_makeNew, Cond.initialized RX2, Cond.code yX2_makeNew cX2_makeNew 4 none, Cond.fieldLink RX2 9 "StakeWeirs$Weir" "place" "I", Cond.fieldLink RX2 15 "StakeWeirs$Weir" "stakes" "I", Cond.fieldLink RX2 18 "StakeWeirs$Weir" "wattle" "I", Cond.fieldLink RX2 21 "StakeWeirs$Weir" "rent" "I", Cond.fieldLink RX2 24 "StakeWeirs$Weir" "coins" "I", Cond.fieldLink RX2 27 "StakeWeirs$Weir" "eels" "I", Cond.fieldLink RX2 30 "StakeWeirs$Weir" "open" "Z", Cond.fieldLink RX2 34 "StakeWeirs$Weir" "owed" "I"]
def wsX3_weir : List Cond := .code yX3_weir cX3_weir 4 (some .int) :: ((wsX3_weir_r1 ++ wsX3_weir_r2) ++ wsX30 ++ wsX10 ++ wsX20 ++ (vx_atS RX3 27 "java/lang/IllegalArgumentException" ["java/lang/RuntimeException", "java/lang/Exception"]).filter goodWord ++ (vx_atS RX3 38 "java/lang/IllegalStateException" ["java/lang/RuntimeException", "java/lang/Exception"]).filter goodWord)
def wsX3_gate : List Cond := .code yX3_gate cX3_gate 3 (some .boolean) :: ([.classLink RX3 47 "java/lang/IndexOutOfBoundsException", .initialized "java/lang/IndexOutOfBoundsException", .classLink RX3 34 "java/lang/IllegalStateException", .initialized "java/lang/IllegalStateException", .fieldLink RX3 12 "StakeWeirs" "now" "LStakeWeirs$Estuary;", .fieldLink RX3 60 "StakeWeirs$Weir" "open" "Z", .methodLink RX3 43 yX1_weirAt, .instanceMethod yX1_weirAt, .selects RX1 yX1_weirAt yX1_weirAt, .initialized RX1, .code yX1_weirAt cX1_weirAt 3 (some (.object "StakeWeirs$Weir")), .fieldLink RX1 39 "StakeWeirs$Estuary" "weirCount" "I", .fieldLink RX1 20 "StakeWeirs$Estuary" "weirs" "[LStakeWeirs$Weir;", .methodLink RX3 52 yX2_isHeld, .instanceMethod yX2_isHeld, .selects RX2 yX2_isHeld yX2_isHeld, .initialized RX2, .code yX2_isHeld cX2_isHeld 1 (some .boolean), .fieldLink RX2 34 "StakeWeirs$Weir" "owed" "I"] ++ wsX30 ++ wsX20 ++ wsX10 ++ (vx_atS RX3 51 "java/lang/IndexOutOfBoundsException" ["java/lang/RuntimeException", "java/lang/Exception"]).filter goodWord ++ (vx_atS RX3 38 "java/lang/IllegalStateException" ["java/lang/RuntimeException", "java/lang/Exception"]).filter goodWord)
def wsX3_mend_r1 : List Cond := [Cond.classLink RX3 47 "java/lang/IndexOutOfBoundsException", Cond.initialized "java/lang/IndexOutOfBoundsException", Cond.classLink RX3 23 "java/lang/IllegalArgumentException", Cond.initialized "java/lang/IllegalArgumentException", Cond.classLink RX3 34 "java/lang/IllegalStateException", Cond.initialized "java/lang/IllegalStateException", Cond.fieldLink RX3 12 "StakeWeirs" "now" "LStakeWeirs$Estuary;", Cond.fieldLink RX3 66 "StakeWeirs$Weir" "wattle" "I", Cond.fieldLink RX3 69 "StakeWeirs$Weir" "coins" "I", Cond.methodLink RX3 43 yX1_weirAt, Cond.instanceMethod yX1_weirAt, Cond.selects RX1 yX1_weirAt yX1_weirAt, Cond.initialized RX1, Cond.code yX1_weirAt cX1_weirAt 3 (some (.object "StakeWeirs$Weir")), Cond.fieldLink RX1 39 "StakeWeirs$Estuary" "weirCount" "I", Cond.fieldLink RX1 20 "StakeWeirs$Estuary" "weirs" "[LStakeWeirs$Weir;", Cond.methodLink RX3 19 yX3_isWithin, Cond.static yX3_isWithin, Cond.initialized RX3, Cond.code yX3_isWithin cX3_isWithin 3 (some .boolean), Cond.methodLink RX3 52 yX2_isHeld, Cond.instanceMethod yX2_isHeld, Cond.selects RX2 yX2_isHeld yX2_isHeld, Cond.initialized RX2]
def wsX3_mend_r2 : List Cond := [Cond.code yX2_isHeld cX2_isHeld 1 (some .boolean), Cond.fieldLink RX2 34 "StakeWeirs$Weir" "owed" "I"]
def wsX3_mend : List Cond := .code yX3_mend cX3_mend 5 (some .int) :: ((wsX3_mend_r1 ++ wsX3_mend_r2) ++ wsX30 ++ wsX20 ++ wsX10 ++ (vx_atS RX3 51 "java/lang/IndexOutOfBoundsException" ["java/lang/RuntimeException", "java/lang/Exception"]).filter goodWord ++ (vx_atS RX3 27 "java/lang/IllegalArgumentException" ["java/lang/RuntimeException", "java/lang/Exception"]).filter goodWord ++ (vx_atS RX3 38 "java/lang/IllegalStateException" ["java/lang/RuntimeException", "java/lang/Exception"]).filter goodWord)
def wsX3_drive_r1 : List Cond := [Cond.classLink RX3 47 "java/lang/IndexOutOfBoundsException", Cond.initialized "java/lang/IndexOutOfBoundsException", Cond.classLink RX3 23 "java/lang/IllegalArgumentException", Cond.initialized "java/lang/IllegalArgumentException", Cond.classLink RX3 34 "java/lang/IllegalStateException", Cond.initialized "java/lang/IllegalStateException", Cond.fieldLink RX3 12 "StakeWeirs" "now" "LStakeWeirs$Estuary;", Cond.fieldLink RX3 76 "StakeWeirs$Weir" "stakes" "I", Cond.fieldLink RX3 69 "StakeWeirs$Weir" "coins" "I", Cond.methodLink RX3 43 yX1_weirAt, Cond.instanceMethod yX1_weirAt, Cond.selects RX1 yX1_weirAt yX1_weirAt, Cond.initialized RX1, Cond.code yX1_weirAt cX1_weirAt 3 (some (.object "StakeWeirs$Weir")), Cond.fieldLink RX1 39 "StakeWeirs$Estuary" "weirCount" "I", Cond.fieldLink RX1 20 "StakeWeirs$Estuary" "weirs" "[LStakeWeirs$Weir;", Cond.methodLink RX3 19 yX3_isWithin, Cond.static yX3_isWithin, Cond.initialized RX3, Cond.code yX3_isWithin cX3_isWithin 3 (some .boolean), Cond.methodLink RX3 52 yX2_isHeld, Cond.instanceMethod yX2_isHeld, Cond.selects RX2 yX2_isHeld yX2_isHeld, Cond.initialized RX2]
def wsX3_drive_r2 : List Cond := [Cond.code yX2_isHeld cX2_isHeld 1 (some .boolean), Cond.fieldLink RX2 34 "StakeWeirs$Weir" "owed" "I"]
def wsX3_drive : List Cond := .code yX3_drive cX3_drive 5 (some .int) :: ((wsX3_drive_r1 ++ wsX3_drive_r2) ++ wsX30 ++ wsX20 ++ wsX10 ++ (vx_atS RX3 51 "java/lang/IndexOutOfBoundsException" ["java/lang/RuntimeException", "java/lang/Exception"]).filter goodWord ++ (vx_atS RX3 27 "java/lang/IllegalArgumentException" ["java/lang/RuntimeException", "java/lang/Exception"]).filter goodWord ++ (vx_atS RX3 38 "java/lang/IllegalStateException" ["java/lang/RuntimeException", "java/lang/Exception"]).filter goodWord)
def wsX3_priceOfEels : List Cond := .code yX3_priceOfEels cX3_priceOfEels 2 (some .int) :: ([])
def wsX3_sell_r1 : List Cond := [Cond.classLink RX3 47 "java/lang/IndexOutOfBoundsException", Cond.initialized "java/lang/IndexOutOfBoundsException", Cond.classLink RX3 34 "java/lang/IllegalStateException", Cond.initialized "java/lang/IllegalStateException", Cond.fieldLink RX3 12 "StakeWeirs" "now" "LStakeWeirs$Estuary;", Cond.fieldLink RX3 81 "StakeWeirs$Weir" "eels" "I", Cond.fieldLink RX3 69 "StakeWeirs$Weir" "coins" "I", Cond.methodLink RX3 43 yX1_weirAt, Cond.instanceMethod yX1_weirAt, Cond.selects RX1 yX1_weirAt yX1_weirAt, Cond.initialized RX1, Cond.code yX1_weirAt cX1_weirAt 3 (some (.object "StakeWeirs$Weir")), Cond.fieldLink RX1 39 "StakeWeirs$Estuary" "weirCount" "I", Cond.fieldLink RX1 20 "StakeWeirs$Estuary" "weirs" "[LStakeWeirs$Weir;", Cond.methodLink RX3 52 yX2_isHeld, Cond.instanceMethod yX2_isHeld, Cond.selects RX2 yX2_isHeld yX2_isHeld, Cond.initialized RX2, Cond.code yX2_isHeld cX2_isHeld 1 (some .boolean), Cond.fieldLink RX2 34 "StakeWeirs$Weir" "owed" "I", Cond.methodLink RX3 86 yX1_moon, Cond.instanceMethod yX1_moon, Cond.selects RX1 yX1_moon yX1_moon, Cond.code yX1_moon cX1_moon 2 (some .int)]
def wsX3_sell_r2 : List Cond := [Cond.fieldLink RX1 62 "StakeWeirs$Estuary" "night" "I", Cond.methodLink RX1 101 yJ9_floorMod_7cf53, Cond.static yJ9_floorMod_7cf53, Cond.initialized RJ9, Cond.code yJ9_floorMod_7cf53 cJ9_floorMod_7cf53 3 (some .int), Cond.methodLink RX3 90 yX3_priceOfEels, Cond.static yX3_priceOfEels, Cond.initialized RX3, Cond.code yX3_priceOfEels cX3_priceOfEels 2 (some .int)]
def wsX3_sell : List Cond := .code yX3_sell cX3_sell 4 (some .int) :: ((wsX3_sell_r1 ++ wsX3_sell_r2) ++ wsX30 ++ wsX20 ++ wsX10 ++ (vx_atS RX3 51 "java/lang/IndexOutOfBoundsException" ["java/lang/RuntimeException", "java/lang/Exception"]).filter goodWord ++ (vx_atS RX3 38 "java/lang/IllegalStateException" ["java/lang/RuntimeException", "java/lang/Exception"]).filter goodWord)
def wsX3_setRun : List Cond := .code yX3_setRun cX3_setRun 4 (some .int) :: ([.classLink RX3 47 "java/lang/IndexOutOfBoundsException", .initialized "java/lang/IndexOutOfBoundsException", .classLink RX3 23 "java/lang/IllegalArgumentException", .initialized "java/lang/IllegalArgumentException", .fieldLink RX3 12 "StakeWeirs" "now" "LStakeWeirs$Estuary;", .methodLink RX3 19 yX3_isWithin, .static yX3_isWithin, .initialized RX3, .code yX3_isWithin cX3_isWithin 3 (some .boolean), .methodLink RX3 98 yX1_tableEels, .instanceMethod yX1_tableEels, .selects RX1 yX1_tableEels yX1_tableEels, .initialized RX1, .code yX1_tableEels cX1_tableEels 2 (some .int), .fieldLink RX1 9 "StakeWeirs$Estuary" "table" "[I", .methodLink RX3 102 yX1_setTableEels, .instanceMethod yX1_setTableEels, .selects RX1 yX1_setTableEels yX1_setTableEels, .code yX1_setTableEels cX1_setTableEels 3 none] ++ wsX30 ++ wsX10 ++ (vx_atS RX3 51 "java/lang/IndexOutOfBoundsException" ["java/lang/RuntimeException", "java/lang/Exception"]).filter goodWord ++ (vx_atS RX3 27 "java/lang/IllegalArgumentException" ["java/lang/RuntimeException", "java/lang/Exception"]).filter goodWord)
def wsX3_barge_r1 : List Cond := [Cond.classLink RX3 23 "java/lang/IllegalArgumentException", Cond.initialized "java/lang/IllegalArgumentException", Cond.classLink RX3 34 "java/lang/IllegalStateException", Cond.initialized "java/lang/IllegalStateException", Cond.fieldLink RX3 12 "StakeWeirs" "now" "LStakeWeirs$Estuary;", Cond.fieldLink RX3 108 "StakeWeirs$Estuary" "bargeCount" "I", Cond.methodLink RX3 19 yX3_isWithin, Cond.static yX3_isWithin, Cond.initialized RX3, Cond.code yX3_isWithin cX3_isWithin 3 (some .boolean), Cond.methodLink RX3 113 yX1_addBarge, Cond.instanceMethod yX1_addBarge, Cond.selects RX1 yX1_addBarge yX1_addBarge, Cond.initialized RX1, Cond.code yX1_addBarge cX1_addBarge 4 (some .int), Cond.fieldLink RX1 51 "StakeWeirs$Estuary" "bargeCount" "I", Cond.fieldLink RX1 65 "StakeWeirs$Estuary" "arrived" "I", Cond.methodLink RX1 54 yX1_bargeAt, Cond.instanceMethod yX1_bargeAt, Cond.selects RX1 yX1_bargeAt yX1_bargeAt, Cond.code yX1_bargeAt cX1_bargeAt 3 (some (.object "StakeWeirs$Barge")), Cond.fieldLink RX1 27 "StakeWeirs$Estuary" "barges" "[LStakeWeirs$Barge;", Cond.methodLink RX1 96 yX0_makeNew, Cond.instanceMethod yX0_makeNew]
def wsX3_barge_r2 : List Cond := [Cond.selects RX0 yX0_makeNew yX0_makeNew, Cond.initialized RX0, Cond.code yX0_makeNew cX0_makeNew 3 none, Cond.fieldLink RX0 9 "StakeWeirs$Barge" "ticket" "I", Cond.fieldLink RX0 15 "StakeWeirs$Barge" "wide" "I", Cond.fieldLink RX0 18 "StakeWeirs$Barge" "place" "I", Cond.fieldLink RX0 21 "StakeWeirs$Barge" "broken" "I"]
def wsX3_barge : List Cond := .code yX3_barge cX3_barge 2 (some .int) :: ((wsX3_barge_r1 ++ wsX3_barge_r2) ++ wsX30 ++ wsX10 ++ wsX00 ++ (vx_atS RX3 27 "java/lang/IllegalArgumentException" ["java/lang/RuntimeException", "java/lang/Exception"]).filter goodWord ++ (vx_atS RX3 38 "java/lang/IllegalStateException" ["java/lang/RuntimeException", "java/lang/Exception"]).filter goodWord)
def wsX3_about_r1 : List Cond := [Cond.classLink RX3 47 "java/lang/IndexOutOfBoundsException", Cond.initialized "java/lang/IndexOutOfBoundsException", Cond.fieldLink RX3 12 "StakeWeirs" "now" "LStakeWeirs$Estuary;", Cond.methodLink RX3 43 yX1_weirAt, Cond.instanceMethod yX1_weirAt, Cond.selects RX1 yX1_weirAt yX1_weirAt, Cond.initialized RX1, Cond.code yX1_weirAt cX1_weirAt 3 (some (.object "StakeWeirs$Weir")), Cond.fieldLink RX1 39 "StakeWeirs$Estuary" "weirCount" "I", Cond.fieldLink RX1 20 "StakeWeirs$Estuary" "weirs" "[LStakeWeirs$Weir;", Cond.methodLink RX3 19 yX3_isWithin, Cond.static yX3_isWithin, Cond.initialized RX3, Cond.code yX3_isWithin cX3_isWithin 3 (some .boolean), Cond.methodLink RX3 118 yX2_fact, Cond.instanceMethod yX2_fact, Cond.selects RX2 yX2_fact yX2_fact, Cond.initialized RX2, Cond.code yX2_fact cX2_fact 2 (some .int), Cond.fieldLink RX2 9 "StakeWeirs$Weir" "place" "I", Cond.fieldLink RX2 15 "StakeWeirs$Weir" "stakes" "I", Cond.fieldLink RX2 18 "StakeWeirs$Weir" "wattle" "I", Cond.fieldLink RX2 21 "StakeWeirs$Weir" "rent" "I", Cond.fieldLink RX2 24 "StakeWeirs$Weir" "coins" "I"]
def wsX3_about_r2 : List Cond := [Cond.fieldLink RX2 27 "StakeWeirs$Weir" "eels" "I", Cond.fieldLink RX2 30 "StakeWeirs$Weir" "open" "Z", Cond.fieldLink RX2 34 "StakeWeirs$Weir" "owed" "I"]
def wsX3_about : List Cond := .code yX3_about cX3_about 4 (some .int) :: ((wsX3_about_r1 ++ wsX3_about_r2) ++ wsX30 ++ wsX10 ++ wsX20 ++ (vx_atS RX3 51 "java/lang/IndexOutOfBoundsException" ["java/lang/RuntimeException", "java/lang/Exception"]).filter goodWord)
def wsX3_told_r1 : List Cond := [Cond.classLink RX3 47 "java/lang/IndexOutOfBoundsException", Cond.initialized "java/lang/IndexOutOfBoundsException", Cond.fieldLink RX3 12 "StakeWeirs" "now" "LStakeWeirs$Estuary;", Cond.methodLink RX3 121 yX1_bargeAt, Cond.instanceMethod yX1_bargeAt, Cond.selects RX1 yX1_bargeAt yX1_bargeAt, Cond.initialized RX1, Cond.code yX1_bargeAt cX1_bargeAt 3 (some (.object "StakeWeirs$Barge")), Cond.fieldLink RX1 51 "StakeWeirs$Estuary" "bargeCount" "I", Cond.fieldLink RX1 27 "StakeWeirs$Estuary" "barges" "[LStakeWeirs$Barge;", Cond.methodLink RX3 19 yX3_isWithin, Cond.static yX3_isWithin, Cond.initialized RX3, Cond.code yX3_isWithin cX3_isWithin 3 (some .boolean), Cond.methodLink RX3 127 yX1_bargeFact, Cond.instanceMethod yX1_bargeFact, Cond.selects RX1 yX1_bargeFact yX1_bargeFact, Cond.code yX1_bargeFact cX1_bargeFact 3 (some .int), Cond.fieldLink RX1 120 "StakeWeirs$Barge" "wide" "I", Cond.fieldLink RX1 123 "StakeWeirs$Barge" "place" "I", Cond.fieldLink RX1 124 "StakeWeirs$Barge" "broken" "I", Cond.methodLink RX1 127 yX1_nextInWay, Cond.instanceMethod yX1_nextInWay, Cond.selects RX1 yX1_nextInWay yX1_nextInWay]
def wsX3_told_r2 : List Cond := [Cond.code yX1_nextInWay cX1_nextInWay 6 (some .int), Cond.fieldLink RX1 39 "StakeWeirs$Estuary" "weirCount" "I", Cond.fieldLink RX1 93 "StakeWeirs$Weir" "place" "I", Cond.methodLink RX1 43 yX1_weirAt, Cond.instanceMethod yX1_weirAt, Cond.selects RX1 yX1_weirAt yX1_weirAt, Cond.code yX1_weirAt cX1_weirAt 3 (some (.object "StakeWeirs$Weir")), Cond.fieldLink RX1 20 "StakeWeirs$Estuary" "weirs" "[LStakeWeirs$Weir;", Cond.methodLink RX1 141 yX2_isInWay, Cond.instanceMethod yX2_isInWay, Cond.selects RX2 yX2_isInWay yX2_isInWay, Cond.initialized RX2, Cond.code yX2_isInWay cX2_isInWay 2 (some .boolean), Cond.fieldLink RX2 15 "StakeWeirs$Weir" "stakes" "I", Cond.methodLink RX2 37 yX2_isFishing, Cond.instanceMethod yX2_isFishing, Cond.selects RX2 yX2_isFishing yX2_isFishing, Cond.code yX2_isFishing cX2_isFishing 1 (some .boolean), Cond.fieldLink RX2 34 "StakeWeirs$Weir" "owed" "I", Cond.fieldLink RX2 30 "StakeWeirs$Weir" "open" "Z"]
def wsX3_told : List Cond := .code yX3_told cX3_told 4 (some .int) :: ((wsX3_told_r1 ++ wsX3_told_r2) ++ wsX30 ++ wsX10 ++ wsX00 ++ wsX20 ++ (vx_atS RX3 51 "java/lang/IndexOutOfBoundsException" ["java/lang/RuntimeException", "java/lang/Exception"]).filter goodWord)
def wsX3_count_r1 : List Cond := [Cond.classLink RX3 47 "java/lang/IndexOutOfBoundsException", Cond.initialized "java/lang/IndexOutOfBoundsException", Cond.fieldLink RX3 12 "StakeWeirs" "now" "LStakeWeirs$Estuary;", Cond.methodLink RX3 19 yX3_isWithin, Cond.static yX3_isWithin, Cond.initialized RX3, Cond.code yX3_isWithin cX3_isWithin 3 (some .boolean), Cond.methodLink RX3 133 yX1_fact, Cond.instanceMethod yX1_fact, Cond.selects RX1 yX1_fact yX1_fact, Cond.initialized RX1, Cond.code yX1_fact cX1_fact 2 (some .int), Cond.fieldLink RX1 62 "StakeWeirs$Estuary" "night" "I", Cond.fieldLink RX1 39 "StakeWeirs$Estuary" "weirCount" "I", Cond.fieldLink RX1 51 "StakeWeirs$Estuary" "bargeCount" "I", Cond.fieldLink RX1 65 "StakeWeirs$Estuary" "arrived" "I", Cond.fieldLink RX1 68 "StakeWeirs$Estuary" "fines" "I", Cond.fieldLink RX1 71 "StakeWeirs$Estuary" "rents" "I", Cond.methodLink RX1 107 yX1_moon, Cond.instanceMethod yX1_moon, Cond.selects RX1 yX1_moon yX1_moon, Cond.code yX1_moon cX1_moon 2 (some .int), Cond.methodLink RX1 101 yJ9_floorMod_7cf53, Cond.static yJ9_floorMod_7cf53]
def wsX3_count_r2 : List Cond := [Cond.initialized RJ9, Cond.code yJ9_floorMod_7cf53 cJ9_floorMod_7cf53 3 (some .int), Cond.methodLink RX1 111 yX1_run, Cond.instanceMethod yX1_run, Cond.selects RX1 yX1_run yX1_run, Cond.code yX1_run cX1_run 3 (some .int), Cond.methodLink RX1 32 yX1_tableEels, Cond.instanceMethod yX1_tableEels, Cond.selects RX1 yX1_tableEels yX1_tableEels, Cond.code yX1_tableEels cX1_tableEels 2 (some .int), Cond.fieldLink RX1 9 "StakeWeirs$Estuary" "table" "[I", Cond.methodLink RX1 114 yX1_heldWeirs, Cond.instanceMethod yX1_heldWeirs, Cond.selects RX1 yX1_heldWeirs yX1_heldWeirs, Cond.code yX1_heldWeirs cX1_heldWeirs 4 (some .int), Cond.methodLink RX1 43 yX1_weirAt, Cond.instanceMethod yX1_weirAt, Cond.selects RX1 yX1_weirAt yX1_weirAt, Cond.code yX1_weirAt cX1_weirAt 3 (some (.object "StakeWeirs$Weir")), Cond.fieldLink RX1 20 "StakeWeirs$Estuary" "weirs" "[LStakeWeirs$Weir;", Cond.methodLink RX1 131 yX2_isHeld, Cond.instanceMethod yX2_isHeld, Cond.selects RX2 yX2_isHeld yX2_isHeld, Cond.initialized RX2]
def wsX3_count_r3 : List Cond := [Cond.code yX2_isHeld cX2_isHeld 1 (some .boolean), Cond.fieldLink RX2 34 "StakeWeirs$Weir" "owed" "I", Cond.methodLink RX1 117 yX1_allEels, Cond.instanceMethod yX1_allEels, Cond.selects RX1 yX1_allEels yX1_allEels, Cond.code yX1_allEels cX1_allEels 4 (some .int), Cond.fieldLink RX1 138 "StakeWeirs$Weir" "eels" "I"]
def wsX3_count : List Cond := .code yX3_count cX3_count 2 (some .int) :: ((wsX3_count_r1 ++ (wsX3_count_r2 ++ wsX3_count_r3)) ++ wsX30 ++ wsX10 ++ wsX20 ++ (vx_atS RX3 51 "java/lang/IndexOutOfBoundsException" ["java/lang/RuntimeException", "java/lang/Exception"]).filter goodWord)
def wsX3_hinders_r1 : List Cond := [Cond.classLink RX3 23 "java/lang/IllegalArgumentException", Cond.initialized "java/lang/IllegalArgumentException", Cond.fieldLink RX3 12 "StakeWeirs" "now" "LStakeWeirs$Estuary;", Cond.methodLink RX3 19 yX3_isWithin, Cond.static yX3_isWithin, Cond.initialized RX3, Cond.code yX3_isWithin cX3_isWithin 3 (some .boolean), Cond.methodLink RX3 134 yX1_weirsInWay, Cond.instanceMethod yX1_weirsInWay, Cond.selects RX1 yX1_weirsInWay yX1_weirsInWay, Cond.initialized RX1, Cond.code yX1_weirsInWay cX1_weirsInWay 5 (some .int), Cond.fieldLink RX1 39 "StakeWeirs$Estuary" "weirCount" "I", Cond.methodLink RX1 43 yX1_weirAt, Cond.instanceMethod yX1_weirAt, Cond.selects RX1 yX1_weirAt yX1_weirAt, Cond.code yX1_weirAt cX1_weirAt 3 (some (.object "StakeWeirs$Weir")), Cond.fieldLink RX1 20 "StakeWeirs$Estuary" "weirs" "[LStakeWeirs$Weir;", Cond.methodLink RX1 141 yX2_isInWay, Cond.instanceMethod yX2_isInWay, Cond.selects RX2 yX2_isInWay yX2_isInWay, Cond.initialized RX2, Cond.code yX2_isInWay cX2_isInWay 2 (some .boolean), Cond.fieldLink RX2 15 "StakeWeirs$Weir" "stakes" "I"]
def wsX3_hinders_r2 : List Cond := [Cond.methodLink RX2 37 yX2_isFishing, Cond.instanceMethod yX2_isFishing, Cond.selects RX2 yX2_isFishing yX2_isFishing, Cond.code yX2_isFishing cX2_isFishing 1 (some .boolean), Cond.fieldLink RX2 34 "StakeWeirs$Weir" "owed" "I", Cond.fieldLink RX2 30 "StakeWeirs$Weir" "open" "Z"]
def wsX3_hinders : List Cond := .code yX3_hinders cX3_hinders 2 (some .int) :: ((wsX3_hinders_r1 ++ wsX3_hinders_r2) ++ wsX30 ++ wsX10 ++ wsX20 ++ (vx_atS RX3 27 "java/lang/IllegalArgumentException" ["java/lang/RuntimeException", "java/lang/Exception"]).filter goodWord)
def wsX3_richest : List Cond := .code yX3_richest cX3_richest 1 (some .int) :: ([.fieldLink RX3 12 "StakeWeirs" "now" "LStakeWeirs$Estuary;", .methodLink RX3 137 yX1_richestHeld, .instanceMethod yX1_richestHeld, .selects RX1 yX1_richestHeld yX1_richestHeld, .initialized RX1, .code yX1_richestHeld cX1_richestHeld 5 (some .int), .fieldLink RX1 39 "StakeWeirs$Estuary" "weirCount" "I", .fieldLink RX1 145 "StakeWeirs$Weir" "coins" "I", .methodLink RX1 43 yX1_weirAt, .instanceMethod yX1_weirAt, .selects RX1 yX1_weirAt yX1_weirAt, .code yX1_weirAt cX1_weirAt 3 (some (.object "StakeWeirs$Weir")), .fieldLink RX1 20 "StakeWeirs$Estuary" "weirs" "[LStakeWeirs$Weir;", .methodLink RX1 131 yX2_isHeld, .instanceMethod yX2_isHeld, .selects RX2 yX2_isHeld yX2_isHeld, .initialized RX2, .code yX2_isHeld cX2_isHeld 1 (some .boolean), .fieldLink RX2 34 "StakeWeirs$Weir" "owed" "I"] ++ wsX30 ++ wsX10 ++ wsX20)
def wsX3_pass_r1 : List Cond := [Cond.classLink RX3 23 "java/lang/IllegalArgumentException", Cond.initialized "java/lang/IllegalArgumentException", Cond.fieldLink RX3 12 "StakeWeirs" "now" "LStakeWeirs$Estuary;", Cond.fieldLink RX3 142 "StakeWeirs$Estuary" "arrived" "I", Cond.methodLink RX3 19 yX3_isWithin, Cond.static yX3_isWithin, Cond.initialized RX3, Cond.code yX3_isWithin cX3_isWithin 3 (some .boolean), Cond.methodLink RX3 145 yX1_goThroughNights, Cond.instanceMethod yX1_goThroughNights, Cond.selects RX1 yX1_goThroughNights yX1_goThroughNights, Cond.initialized RX1, Cond.code yX1_goThroughNights cX1_goThroughNights 3 none, Cond.fieldLink RX1 62 "StakeWeirs$Estuary" "night" "I", Cond.methodLink RX1 148 yX1_catchEels, Cond.instanceMethod yX1_catchEels, Cond.selects RX1 yX1_catchEels yX1_catchEels, Cond.code yX1_catchEels cX1_catchEels 4 none, Cond.fieldLink RX1 39 "StakeWeirs$Estuary" "weirCount" "I", Cond.methodLink RX1 111 yX1_run, Cond.instanceMethod yX1_run, Cond.selects RX1 yX1_run yX1_run, Cond.code yX1_run cX1_run 3 (some .int), Cond.methodLink RX1 101 yJ9_floorMod_7cf53]
def wsX3_pass_r2 : List Cond := [Cond.static yJ9_floorMod_7cf53, Cond.initialized RJ9, Cond.code yJ9_floorMod_7cf53 cJ9_floorMod_7cf53 3 (some .int), Cond.methodLink RX1 32 yX1_tableEels, Cond.instanceMethod yX1_tableEels, Cond.selects RX1 yX1_tableEels yX1_tableEels, Cond.code yX1_tableEels cX1_tableEels 2 (some .int), Cond.fieldLink RX1 9 "StakeWeirs$Estuary" "table" "[I", Cond.methodLink RX1 107 yX1_moon, Cond.instanceMethod yX1_moon, Cond.selects RX1 yX1_moon yX1_moon, Cond.code yX1_moon cX1_moon 2 (some .int), Cond.methodLink RX1 36 yX1_inOrder, Cond.instanceMethod yX1_inOrder, Cond.selects RX1 yX1_inOrder yX1_inOrder, Cond.code yX1_inOrder cX1_inOrder 2 (some .int), Cond.fieldLink RX1 15 "StakeWeirs$Estuary" "order" "[I", Cond.methodLink RX1 43 yX1_weirAt, Cond.instanceMethod yX1_weirAt, Cond.selects RX1 yX1_weirAt yX1_weirAt, Cond.code yX1_weirAt cX1_weirAt 3 (some (.object "StakeWeirs$Weir")), Cond.fieldLink RX1 20 "StakeWeirs$Estuary" "weirs" "[LStakeWeirs$Weir;", Cond.methodLink RX1 163 yX2_isFishing, Cond.instanceMethod yX2_isFishing]
def wsX3_pass_r3 : List Cond := [Cond.selects RX2 yX2_isFishing yX2_isFishing, Cond.initialized RX2, Cond.code yX2_isFishing cX2_isFishing 1 (some .boolean), Cond.fieldLink RX2 34 "StakeWeirs$Weir" "owed" "I", Cond.fieldLink RX2 30 "StakeWeirs$Weir" "open" "Z", Cond.methodLink RX1 166 yX2_catchOf, Cond.instanceMethod yX2_catchOf, Cond.selects RX2 yX2_catchOf yX2_catchOf, Cond.code yX2_catchOf cX2_catchOf 3 (some .int), Cond.fieldLink RX2 15 "StakeWeirs$Weir" "stakes" "I", Cond.fieldLink RX2 18 "StakeWeirs$Weir" "wattle" "I", Cond.fieldLink RX2 27 "StakeWeirs$Weir" "eels" "I", Cond.methodLink RX2 41 Lib.Math.min.name, Cond.static Lib.Math.min.name, Cond.initialized "java/lang/Math", Cond.code Lib.Math.min.name Lib.Math.min.code 2 (some .int), Cond.methodLink RX1 151 yX1_moveBarges, Cond.instanceMethod yX1_moveBarges, Cond.selects RX1 yX1_moveBarges yX1_moveBarges, Cond.code yX1_moveBarges cX1_moveBarges 4 none, Cond.fieldLink RX1 51 "StakeWeirs$Estuary" "bargeCount" "I", Cond.fieldLink RX1 93 "StakeWeirs$Weir" "place" "I", Cond.methodLink RX1 54 yX1_bargeAt, Cond.instanceMethod yX1_bargeAt]
def wsX3_pass_r4 : List Cond := [Cond.selects RX1 yX1_bargeAt yX1_bargeAt, Cond.code yX1_bargeAt cX1_bargeAt 3 (some (.object "StakeWeirs$Barge")), Cond.fieldLink RX1 27 "StakeWeirs$Estuary" "barges" "[LStakeWeirs$Barge;", Cond.methodLink RX1 127 yX1_nextInWay, Cond.instanceMethod yX1_nextInWay, Cond.selects RX1 yX1_nextInWay yX1_nextInWay, Cond.code yX1_nextInWay cX1_nextInWay 6 (some .int), Cond.fieldLink RX1 123 "StakeWeirs$Barge" "place" "I", Cond.fieldLink RX1 120 "StakeWeirs$Barge" "wide" "I", Cond.methodLink RX1 141 yX2_isInWay, Cond.instanceMethod yX2_isInWay, Cond.selects RX2 yX2_isInWay yX2_isInWay, Cond.code yX2_isInWay cX2_isInWay 2 (some .boolean), Cond.methodLink RX2 37 yX2_isFishing, Cond.methodLink RX1 169 yX0_goOn, Cond.instanceMethod yX0_goOn, Cond.selects RX0 yX0_goOn yX0_goOn, Cond.initialized RX0, Cond.code yX0_goOn cX0_goOn 2 none, Cond.fieldLink RX0 18 "StakeWeirs$Barge" "place" "I", Cond.methodLink RX0 24 Lib.Math.min.name, Cond.methodLink RX1 173 yX1_breakThrough, Cond.instanceMethod yX1_breakThrough, Cond.selects RX1 yX1_breakThrough yX1_breakThrough]
def wsX3_pass_r5 : List Cond := [Cond.code yX1_breakThrough cX1_breakThrough 4 none, Cond.fieldLink RX1 68 "StakeWeirs$Estuary" "fines" "I", Cond.fieldLink RX1 124 "StakeWeirs$Barge" "broken" "I", Cond.methodLink RX1 176 yX2_breakFor, Cond.instanceMethod yX2_breakFor, Cond.selects RX2 yX2_breakFor yX2_breakFor, Cond.code yX2_breakFor cX2_breakFor 3 (some .int), Cond.fieldLink RX2 24 "StakeWeirs$Weir" "coins" "I", Cond.methodLink RX2 47 yX2_loseWattle, Cond.instanceMethod yX2_loseWattle, Cond.selects RX2 yX2_loseWattle yX2_loseWattle, Cond.code yX2_loseWattle cX2_loseWattle 2 none, Cond.methodLink RX1 154 yX1_leaveOutArrived, Cond.instanceMethod yX1_leaveOutArrived, Cond.selects RX1 yX1_leaveOutArrived yX1_leaveOutArrived, Cond.code yX1_leaveOutArrived cX1_leaveOutArrived 4 none, Cond.fieldLink RX1 65 "StakeWeirs$Estuary" "arrived" "I", Cond.methodLink RX1 58 yX1_copyBarge, Cond.static yX1_copyBarge, Cond.code yX1_copyBarge cX1_copyBarge 2 none, Cond.methodLink RX1 78 yX0_copyFrom, Cond.instanceMethod yX0_copyFrom, Cond.selects RX0 yX0_copyFrom yX0_copyFrom, Cond.code yX0_copyFrom cX0_copyFrom 2 none]
def wsX3_pass_r6 : List Cond := [Cond.fieldLink RX0 9 "StakeWeirs$Barge" "ticket" "I", Cond.fieldLink RX0 15 "StakeWeirs$Barge" "wide" "I", Cond.fieldLink RX0 21 "StakeWeirs$Barge" "broken" "I", Cond.methodLink RX1 157 yX1_rotWattle, Cond.instanceMethod yX1_rotWattle, Cond.selects RX1 yX1_rotWattle yX1_rotWattle, Cond.code yX1_rotWattle cX1_rotWattle 4 none, Cond.methodLink RX1 131 yX2_isHeld, Cond.instanceMethod yX2_isHeld, Cond.selects RX2 yX2_isHeld yX2_isHeld, Cond.code yX2_isHeld cX2_isHeld 1 (some .boolean), Cond.methodLink RX1 179 yX2_loseWattle, Cond.methodLink RX1 160 yX1_collectRents, Cond.instanceMethod yX1_collectRents, Cond.selects RX1 yX1_collectRents yX1_collectRents, Cond.code yX1_collectRents cX1_collectRents 3 none, Cond.fieldLink RX1 71 "StakeWeirs$Estuary" "rents" "I", Cond.methodLink RX1 182 yX2_payRent, Cond.instanceMethod yX2_payRent, Cond.selects RX2 yX2_payRent yX2_payRent, Cond.code yX2_payRent cX2_payRent 1 (some .int), Cond.fieldLink RX2 21 "StakeWeirs$Weir" "rent" "I"]
def wsX3_pass : List Cond := .code yX3_pass cX3_pass 3 (some .int) :: ((wsX3_pass_r1 ++ (wsX3_pass_r2 ++ (wsX3_pass_r3 ++ (wsX3_pass_r4 ++ (wsX3_pass_r5 ++ wsX3_pass_r6))))) ++ wsX30 ++ wsX10 ++ wsX20 ++ wsX00 ++ (vx_atS RX3 27 "java/lang/IllegalArgumentException" ["java/lang/RuntimeException", "java/lang/Exception"]).filter goodWord)
def wsX3_catches_r1 : List Cond := [Cond.classLink RX3 47 "java/lang/IndexOutOfBoundsException", Cond.initialized "java/lang/IndexOutOfBoundsException", Cond.fieldLink RX3 12 "StakeWeirs" "now" "LStakeWeirs$Estuary;", Cond.fieldLink RX3 16 "StakeWeirs" "trial" "LStakeWeirs$Estuary;", Cond.fieldLink RX3 81 "StakeWeirs$Weir" "eels" "I", Cond.methodLink RX3 43 yX1_weirAt, Cond.instanceMethod yX1_weirAt, Cond.selects RX1 yX1_weirAt yX1_weirAt, Cond.initialized RX1, Cond.code yX1_weirAt cX1_weirAt 3 (some (.object "StakeWeirs$Weir")), Cond.fieldLink RX1 39 "StakeWeirs$Estuary" "weirCount" "I", Cond.fieldLink RX1 20 "StakeWeirs$Estuary" "weirs" "[LStakeWeirs$Weir;", Cond.methodLink RX3 149 yX1_copyFrom, Cond.instanceMethod yX1_copyFrom, Cond.selects RX1 yX1_copyFrom yX1_copyFrom, Cond.code yX1_copyFrom cX1_copyFrom 3 none, Cond.fieldLink RX1 9 "StakeWeirs$Estuary" "table" "[I", Cond.fieldLink RX1 15 "StakeWeirs$Estuary" "order" "[I", Cond.fieldLink RX1 51 "StakeWeirs$Estuary" "bargeCount" "I", Cond.fieldLink RX1 62 "StakeWeirs$Estuary" "night" "I", Cond.fieldLink RX1 65 "StakeWeirs$Estuary" "arrived" "I", Cond.fieldLink RX1 68 "StakeWeirs$Estuary" "fines" "I", Cond.fieldLink RX1 71 "StakeWeirs$Estuary" "rents" "I", Cond.methodLink RX1 32 yX1_tableEels]
def wsX3_catches_r2 : List Cond := [Cond.instanceMethod yX1_tableEels, Cond.selects RX1 yX1_tableEels yX1_tableEels, Cond.code yX1_tableEels cX1_tableEels 2 (some .int), Cond.methodLink RX1 36 yX1_inOrder, Cond.instanceMethod yX1_inOrder, Cond.selects RX1 yX1_inOrder yX1_inOrder, Cond.code yX1_inOrder cX1_inOrder 2 (some .int), Cond.methodLink RX1 43 yX1_weirAt, Cond.methodLink RX1 47 yX1_copyWeir, Cond.static yX1_copyWeir, Cond.code yX1_copyWeir cX1_copyWeir 2 none, Cond.methodLink RX1 74 yX2_copyFrom, Cond.instanceMethod yX2_copyFrom, Cond.selects RX2 yX2_copyFrom yX2_copyFrom, Cond.initialized RX2, Cond.code yX2_copyFrom cX2_copyFrom 2 none, Cond.fieldLink RX2 9 "StakeWeirs$Weir" "place" "I", Cond.fieldLink RX2 15 "StakeWeirs$Weir" "stakes" "I", Cond.fieldLink RX2 18 "StakeWeirs$Weir" "wattle" "I", Cond.fieldLink RX2 21 "StakeWeirs$Weir" "rent" "I", Cond.fieldLink RX2 24 "StakeWeirs$Weir" "coins" "I", Cond.fieldLink RX2 27 "StakeWeirs$Weir" "eels" "I", Cond.fieldLink RX2 30 "StakeWeirs$Weir" "open" "Z", Cond.fieldLink RX2 34 "StakeWeirs$Weir" "owed" "I"]
def wsX3_catches_r3 : List Cond := [Cond.methodLink RX1 54 yX1_bargeAt, Cond.instanceMethod yX1_bargeAt, Cond.selects RX1 yX1_bargeAt yX1_bargeAt, Cond.code yX1_bargeAt cX1_bargeAt 3 (some (.object "StakeWeirs$Barge")), Cond.fieldLink RX1 27 "StakeWeirs$Estuary" "barges" "[LStakeWeirs$Barge;", Cond.methodLink RX1 58 yX1_copyBarge, Cond.static yX1_copyBarge, Cond.code yX1_copyBarge cX1_copyBarge 2 none, Cond.methodLink RX1 78 yX0_copyFrom, Cond.instanceMethod yX0_copyFrom, Cond.selects RX0 yX0_copyFrom yX0_copyFrom, Cond.initialized RX0, Cond.code yX0_copyFrom cX0_copyFrom 2 none, Cond.fieldLink RX0 9 "StakeWeirs$Barge" "ticket" "I", Cond.fieldLink RX0 15 "StakeWeirs$Barge" "wide" "I", Cond.fieldLink RX0 18 "StakeWeirs$Barge" "place" "I", Cond.fieldLink RX0 21 "StakeWeirs$Barge" "broken" "I", Cond.methodLink RX3 153 yX1_catchEels, Cond.instanceMethod yX1_catchEels, Cond.selects RX1 yX1_catchEels yX1_catchEels, Cond.code yX1_catchEels cX1_catchEels 4 none, Cond.methodLink RX1 111 yX1_run, Cond.instanceMethod yX1_run, Cond.selects RX1 yX1_run yX1_run]
def wsX3_catches_r4 : List Cond := [Cond.code yX1_run cX1_run 3 (some .int), Cond.methodLink RX1 101 yJ9_floorMod_7cf53, Cond.static yJ9_floorMod_7cf53, Cond.initialized RJ9, Cond.code yJ9_floorMod_7cf53 cJ9_floorMod_7cf53 3 (some .int), Cond.methodLink RX1 107 yX1_moon, Cond.instanceMethod yX1_moon, Cond.selects RX1 yX1_moon yX1_moon, Cond.code yX1_moon cX1_moon 2 (some .int), Cond.methodLink RX1 163 yX2_isFishing, Cond.instanceMethod yX2_isFishing, Cond.selects RX2 yX2_isFishing yX2_isFishing, Cond.code yX2_isFishing cX2_isFishing 1 (some .boolean), Cond.methodLink RX1 166 yX2_catchOf, Cond.instanceMethod yX2_catchOf, Cond.selects RX2 yX2_catchOf yX2_catchOf, Cond.code yX2_catchOf cX2_catchOf 3 (some .int), Cond.methodLink RX2 41 Lib.Math.min.name, Cond.static Lib.Math.min.name, Cond.initialized "java/lang/Math", Cond.code Lib.Math.min.name Lib.Math.min.code 2 (some .int)]
def wsX3_catches : List Cond := .code yX3_catches cX3_catches 4 (some .int) :: ((wsX3_catches_r1 ++ (wsX3_catches_r2 ++ (wsX3_catches_r3 ++ wsX3_catches_r4))) ++ wsX30 ++ wsX20 ++ wsX10 ++ wsX00 ++ (vx_atS RX3 51 "java/lang/IndexOutOfBoundsException" ["java/lang/RuntimeException", "java/lang/Exception"]).filter goodWord)
def wsX3_arrives_r1 : List Cond := [Cond.classLink RX3 47 "java/lang/IndexOutOfBoundsException", Cond.initialized "java/lang/IndexOutOfBoundsException", Cond.fieldLink RX3 12 "StakeWeirs" "now" "LStakeWeirs$Estuary;", Cond.fieldLink RX3 16 "StakeWeirs" "trial" "LStakeWeirs$Estuary;", Cond.fieldLink RX3 158 "StakeWeirs$Barge" "ticket" "I", Cond.methodLink RX3 121 yX1_bargeAt, Cond.instanceMethod yX1_bargeAt, Cond.selects RX1 yX1_bargeAt yX1_bargeAt, Cond.initialized RX1, Cond.code yX1_bargeAt cX1_bargeAt 3 (some (.object "StakeWeirs$Barge")), Cond.fieldLink RX1 51 "StakeWeirs$Estuary" "bargeCount" "I", Cond.fieldLink RX1 27 "StakeWeirs$Estuary" "barges" "[LStakeWeirs$Barge;", Cond.methodLink RX3 149 yX1_copyFrom, Cond.instanceMethod yX1_copyFrom, Cond.selects RX1 yX1_copyFrom yX1_copyFrom, Cond.code yX1_copyFrom cX1_copyFrom 3 none, Cond.fieldLink RX1 9 "StakeWeirs$Estuary" "table" "[I", Cond.fieldLink RX1 15 "StakeWeirs$Estuary" "order" "[I", Cond.fieldLink RX1 39 "StakeWeirs$Estuary" "weirCount" "I", Cond.fieldLink RX1 62 "StakeWeirs$Estuary" "night" "I", Cond.fieldLink RX1 65 "StakeWeirs$Estuary" "arrived" "I", Cond.fieldLink RX1 68 "StakeWeirs$Estuary" "fines" "I", Cond.fieldLink RX1 71 "StakeWeirs$Estuary" "rents" "I", Cond.methodLink RX1 32 yX1_tableEels]
def wsX3_arrives_r2 : List Cond := [Cond.instanceMethod yX1_tableEels, Cond.selects RX1 yX1_tableEels yX1_tableEels, Cond.code yX1_tableEels cX1_tableEels 2 (some .int), Cond.methodLink RX1 36 yX1_inOrder, Cond.instanceMethod yX1_inOrder, Cond.selects RX1 yX1_inOrder yX1_inOrder, Cond.code yX1_inOrder cX1_inOrder 2 (some .int), Cond.methodLink RX1 43 yX1_weirAt, Cond.instanceMethod yX1_weirAt, Cond.selects RX1 yX1_weirAt yX1_weirAt, Cond.code yX1_weirAt cX1_weirAt 3 (some (.object "StakeWeirs$Weir")), Cond.fieldLink RX1 20 "StakeWeirs$Estuary" "weirs" "[LStakeWeirs$Weir;", Cond.methodLink RX1 47 yX1_copyWeir, Cond.static yX1_copyWeir, Cond.code yX1_copyWeir cX1_copyWeir 2 none, Cond.methodLink RX1 74 yX2_copyFrom, Cond.instanceMethod yX2_copyFrom, Cond.selects RX2 yX2_copyFrom yX2_copyFrom, Cond.initialized RX2, Cond.code yX2_copyFrom cX2_copyFrom 2 none, Cond.fieldLink RX2 9 "StakeWeirs$Weir" "place" "I", Cond.fieldLink RX2 15 "StakeWeirs$Weir" "stakes" "I", Cond.fieldLink RX2 18 "StakeWeirs$Weir" "wattle" "I", Cond.fieldLink RX2 21 "StakeWeirs$Weir" "rent" "I"]
def wsX3_arrives_r3 : List Cond := [Cond.fieldLink RX2 24 "StakeWeirs$Weir" "coins" "I", Cond.fieldLink RX2 27 "StakeWeirs$Weir" "eels" "I", Cond.fieldLink RX2 30 "StakeWeirs$Weir" "open" "Z", Cond.fieldLink RX2 34 "StakeWeirs$Weir" "owed" "I", Cond.methodLink RX1 54 yX1_bargeAt, Cond.methodLink RX1 58 yX1_copyBarge, Cond.static yX1_copyBarge, Cond.code yX1_copyBarge cX1_copyBarge 2 none, Cond.methodLink RX1 78 yX0_copyFrom, Cond.instanceMethod yX0_copyFrom, Cond.selects RX0 yX0_copyFrom yX0_copyFrom, Cond.initialized RX0, Cond.code yX0_copyFrom cX0_copyFrom 2 none, Cond.fieldLink RX0 9 "StakeWeirs$Barge" "ticket" "I", Cond.fieldLink RX0 15 "StakeWeirs$Barge" "wide" "I", Cond.fieldLink RX0 18 "StakeWeirs$Barge" "place" "I", Cond.fieldLink RX0 21 "StakeWeirs$Barge" "broken" "I", Cond.methodLink RX3 163 yX1_isUnderWay, Cond.instanceMethod yX1_isUnderWay, Cond.selects RX1 yX1_isUnderWay yX1_isUnderWay, Cond.code yX1_isUnderWay cX1_isUnderWay 4 (some .boolean), Cond.fieldLink RX1 98 "StakeWeirs$Barge" "ticket" "I", Cond.methodLink RX3 145 yX1_goThroughNights, Cond.instanceMethod yX1_goThroughNights]
def wsX3_arrives_r4 : List Cond := [Cond.selects RX1 yX1_goThroughNights yX1_goThroughNights, Cond.code yX1_goThroughNights cX1_goThroughNights 3 none, Cond.methodLink RX1 148 yX1_catchEels, Cond.instanceMethod yX1_catchEels, Cond.selects RX1 yX1_catchEels yX1_catchEels, Cond.code yX1_catchEels cX1_catchEels 4 none, Cond.methodLink RX1 111 yX1_run, Cond.instanceMethod yX1_run, Cond.selects RX1 yX1_run yX1_run, Cond.code yX1_run cX1_run 3 (some .int), Cond.methodLink RX1 101 yJ9_floorMod_7cf53, Cond.static yJ9_floorMod_7cf53, Cond.initialized RJ9, Cond.code yJ9_floorMod_7cf53 cJ9_floorMod_7cf53 3 (some .int), Cond.methodLink RX1 107 yX1_moon, Cond.instanceMethod yX1_moon, Cond.selects RX1 yX1_moon yX1_moon, Cond.code yX1_moon cX1_moon 2 (some .int), Cond.methodLink RX1 163 yX2_isFishing, Cond.instanceMethod yX2_isFishing, Cond.selects RX2 yX2_isFishing yX2_isFishing, Cond.code yX2_isFishing cX2_isFishing 1 (some .boolean), Cond.methodLink RX1 166 yX2_catchOf, Cond.instanceMethod yX2_catchOf]
def wsX3_arrives_r5 : List Cond := [Cond.selects RX2 yX2_catchOf yX2_catchOf, Cond.code yX2_catchOf cX2_catchOf 3 (some .int), Cond.methodLink RX2 41 Lib.Math.min.name, Cond.static Lib.Math.min.name, Cond.initialized "java/lang/Math", Cond.code Lib.Math.min.name Lib.Math.min.code 2 (some .int), Cond.methodLink RX1 151 yX1_moveBarges, Cond.instanceMethod yX1_moveBarges, Cond.selects RX1 yX1_moveBarges yX1_moveBarges, Cond.code yX1_moveBarges cX1_moveBarges 4 none, Cond.fieldLink RX1 93 "StakeWeirs$Weir" "place" "I", Cond.methodLink RX1 127 yX1_nextInWay, Cond.instanceMethod yX1_nextInWay, Cond.selects RX1 yX1_nextInWay yX1_nextInWay, Cond.code yX1_nextInWay cX1_nextInWay 6 (some .int), Cond.fieldLink RX1 123 "StakeWeirs$Barge" "place" "I", Cond.fieldLink RX1 120 "StakeWeirs$Barge" "wide" "I", Cond.methodLink RX1 141 yX2_isInWay, Cond.instanceMethod yX2_isInWay, Cond.selects RX2 yX2_isInWay yX2_isInWay, Cond.code yX2_isInWay cX2_isInWay 2 (some .boolean), Cond.methodLink RX2 37 yX2_isFishing, Cond.methodLink RX1 169 yX0_goOn, Cond.instanceMethod yX0_goOn]
def wsX3_arrives_r6 : List Cond := [Cond.selects RX0 yX0_goOn yX0_goOn, Cond.code yX0_goOn cX0_goOn 2 none, Cond.methodLink RX0 24 Lib.Math.min.name, Cond.methodLink RX1 173 yX1_breakThrough, Cond.instanceMethod yX1_breakThrough, Cond.selects RX1 yX1_breakThrough yX1_breakThrough, Cond.code yX1_breakThrough cX1_breakThrough 4 none, Cond.fieldLink RX1 124 "StakeWeirs$Barge" "broken" "I", Cond.methodLink RX1 176 yX2_breakFor, Cond.instanceMethod yX2_breakFor, Cond.selects RX2 yX2_breakFor yX2_breakFor, Cond.code yX2_breakFor cX2_breakFor 3 (some .int), Cond.methodLink RX2 47 yX2_loseWattle, Cond.instanceMethod yX2_loseWattle, Cond.selects RX2 yX2_loseWattle yX2_loseWattle, Cond.code yX2_loseWattle cX2_loseWattle 2 none, Cond.methodLink RX1 154 yX1_leaveOutArrived, Cond.instanceMethod yX1_leaveOutArrived, Cond.selects RX1 yX1_leaveOutArrived yX1_leaveOutArrived, Cond.code yX1_leaveOutArrived cX1_leaveOutArrived 4 none, Cond.methodLink RX1 157 yX1_rotWattle, Cond.instanceMethod yX1_rotWattle, Cond.selects RX1 yX1_rotWattle yX1_rotWattle, Cond.code yX1_rotWattle cX1_rotWattle 4 none]
def wsX3_arrives_r7 : List Cond := [Cond.methodLink RX1 131 yX2_isHeld, Cond.instanceMethod yX2_isHeld, Cond.selects RX2 yX2_isHeld yX2_isHeld, Cond.code yX2_isHeld cX2_isHeld 1 (some .boolean), Cond.methodLink RX1 179 yX2_loseWattle, Cond.methodLink RX1 160 yX1_collectRents, Cond.instanceMethod yX1_collectRents, Cond.selects RX1 yX1_collectRents yX1_collectRents, Cond.code yX1_collectRents cX1_collectRents 3 none, Cond.methodLink RX1 182 yX2_payRent, Cond.instanceMethod yX2_payRent, Cond.selects RX2 yX2_payRent yX2_payRent, Cond.code yX2_payRent cX2_payRent 1 (some .int)]
def wsX3_arrives : List Cond := .code yX3_arrives cX3_arrives 4 (some .int) :: ((wsX3_arrives_r1 ++ (wsX3_arrives_r2 ++ (wsX3_arrives_r3 ++ (wsX3_arrives_r4 ++ (wsX3_arrives_r5 ++ (wsX3_arrives_r6 ++ wsX3_arrives_r7)))))) ++ wsX30 ++ wsX00 ++ wsX10 ++ wsX20 ++ (vx_atS RX3 51 "java/lang/IndexOutOfBoundsException" ["java/lang/RuntimeException", "java/lang/Exception"]).filter goodWord)
def wsX3_lasts_r1 : List Cond := [Cond.classLink RX3 47 "java/lang/IndexOutOfBoundsException", Cond.initialized "java/lang/IndexOutOfBoundsException", Cond.fieldLink RX3 12 "StakeWeirs" "now" "LStakeWeirs$Estuary;", Cond.fieldLink RX3 16 "StakeWeirs" "trial" "LStakeWeirs$Estuary;", Cond.fieldLink RX3 66 "StakeWeirs$Weir" "wattle" "I", Cond.methodLink RX3 43 yX1_weirAt, Cond.instanceMethod yX1_weirAt, Cond.selects RX1 yX1_weirAt yX1_weirAt, Cond.initialized RX1, Cond.code yX1_weirAt cX1_weirAt 3 (some (.object "StakeWeirs$Weir")), Cond.fieldLink RX1 39 "StakeWeirs$Estuary" "weirCount" "I", Cond.fieldLink RX1 20 "StakeWeirs$Estuary" "weirs" "[LStakeWeirs$Weir;", Cond.methodLink RX3 149 yX1_copyFrom, Cond.instanceMethod yX1_copyFrom, Cond.selects RX1 yX1_copyFrom yX1_copyFrom, Cond.code yX1_copyFrom cX1_copyFrom 3 none, Cond.fieldLink RX1 9 "StakeWeirs$Estuary" "table" "[I", Cond.fieldLink RX1 15 "StakeWeirs$Estuary" "order" "[I", Cond.fieldLink RX1 51 "StakeWeirs$Estuary" "bargeCount" "I", Cond.fieldLink RX1 62 "StakeWeirs$Estuary" "night" "I", Cond.fieldLink RX1 65 "StakeWeirs$Estuary" "arrived" "I", Cond.fieldLink RX1 68 "StakeWeirs$Estuary" "fines" "I", Cond.fieldLink RX1 71 "StakeWeirs$Estuary" "rents" "I", Cond.methodLink RX1 32 yX1_tableEels]
def wsX3_lasts_r2 : List Cond := [Cond.instanceMethod yX1_tableEels, Cond.selects RX1 yX1_tableEels yX1_tableEels, Cond.code yX1_tableEels cX1_tableEels 2 (some .int), Cond.methodLink RX1 36 yX1_inOrder, Cond.instanceMethod yX1_inOrder, Cond.selects RX1 yX1_inOrder yX1_inOrder, Cond.code yX1_inOrder cX1_inOrder 2 (some .int), Cond.methodLink RX1 43 yX1_weirAt, Cond.methodLink RX1 47 yX1_copyWeir, Cond.static yX1_copyWeir, Cond.code yX1_copyWeir cX1_copyWeir 2 none, Cond.methodLink RX1 74 yX2_copyFrom, Cond.instanceMethod yX2_copyFrom, Cond.selects RX2 yX2_copyFrom yX2_copyFrom, Cond.initialized RX2, Cond.code yX2_copyFrom cX2_copyFrom 2 none, Cond.fieldLink RX2 9 "StakeWeirs$Weir" "place" "I", Cond.fieldLink RX2 15 "StakeWeirs$Weir" "stakes" "I", Cond.fieldLink RX2 18 "StakeWeirs$Weir" "wattle" "I", Cond.fieldLink RX2 21 "StakeWeirs$Weir" "rent" "I", Cond.fieldLink RX2 24 "StakeWeirs$Weir" "coins" "I", Cond.fieldLink RX2 27 "StakeWeirs$Weir" "eels" "I", Cond.fieldLink RX2 30 "StakeWeirs$Weir" "open" "Z", Cond.fieldLink RX2 34 "StakeWeirs$Weir" "owed" "I"]
def wsX3_lasts_r3 : List Cond := [Cond.methodLink RX1 54 yX1_bargeAt, Cond.instanceMethod yX1_bargeAt, Cond.selects RX1 yX1_bargeAt yX1_bargeAt, Cond.code yX1_bargeAt cX1_bargeAt 3 (some (.object "StakeWeirs$Barge")), Cond.fieldLink RX1 27 "StakeWeirs$Estuary" "barges" "[LStakeWeirs$Barge;", Cond.methodLink RX1 58 yX1_copyBarge, Cond.static yX1_copyBarge, Cond.code yX1_copyBarge cX1_copyBarge 2 none, Cond.methodLink RX1 78 yX0_copyFrom, Cond.instanceMethod yX0_copyFrom, Cond.selects RX0 yX0_copyFrom yX0_copyFrom, Cond.initialized RX0, Cond.code yX0_copyFrom cX0_copyFrom 2 none, Cond.fieldLink RX0 9 "StakeWeirs$Barge" "ticket" "I", Cond.fieldLink RX0 15 "StakeWeirs$Barge" "wide" "I", Cond.fieldLink RX0 18 "StakeWeirs$Barge" "place" "I", Cond.fieldLink RX0 21 "StakeWeirs$Barge" "broken" "I", Cond.methodLink RX3 52 yX2_isHeld, Cond.instanceMethod yX2_isHeld, Cond.selects RX2 yX2_isHeld yX2_isHeld, Cond.code yX2_isHeld cX2_isHeld 1 (some .boolean), Cond.methodLink RX3 145 yX1_goThroughNights, Cond.instanceMethod yX1_goThroughNights, Cond.selects RX1 yX1_goThroughNights yX1_goThroughNights]
def wsX3_lasts_r4 : List Cond := [Cond.code yX1_goThroughNights cX1_goThroughNights 3 none, Cond.methodLink RX1 148 yX1_catchEels, Cond.instanceMethod yX1_catchEels, Cond.selects RX1 yX1_catchEels yX1_catchEels, Cond.code yX1_catchEels cX1_catchEels 4 none, Cond.methodLink RX1 111 yX1_run, Cond.instanceMethod yX1_run, Cond.selects RX1 yX1_run yX1_run, Cond.code yX1_run cX1_run 3 (some .int), Cond.methodLink RX1 101 yJ9_floorMod_7cf53, Cond.static yJ9_floorMod_7cf53, Cond.initialized RJ9, Cond.code yJ9_floorMod_7cf53 cJ9_floorMod_7cf53 3 (some .int), Cond.methodLink RX1 107 yX1_moon, Cond.instanceMethod yX1_moon, Cond.selects RX1 yX1_moon yX1_moon, Cond.code yX1_moon cX1_moon 2 (some .int), Cond.methodLink RX1 163 yX2_isFishing, Cond.instanceMethod yX2_isFishing, Cond.selects RX2 yX2_isFishing yX2_isFishing, Cond.code yX2_isFishing cX2_isFishing 1 (some .boolean), Cond.methodLink RX1 166 yX2_catchOf, Cond.instanceMethod yX2_catchOf, Cond.selects RX2 yX2_catchOf yX2_catchOf]
def wsX3_lasts_r5 : List Cond := [Cond.code yX2_catchOf cX2_catchOf 3 (some .int), Cond.methodLink RX2 41 Lib.Math.min.name, Cond.static Lib.Math.min.name, Cond.initialized "java/lang/Math", Cond.code Lib.Math.min.name Lib.Math.min.code 2 (some .int), Cond.methodLink RX1 151 yX1_moveBarges, Cond.instanceMethod yX1_moveBarges, Cond.selects RX1 yX1_moveBarges yX1_moveBarges, Cond.code yX1_moveBarges cX1_moveBarges 4 none, Cond.fieldLink RX1 93 "StakeWeirs$Weir" "place" "I", Cond.methodLink RX1 127 yX1_nextInWay, Cond.instanceMethod yX1_nextInWay, Cond.selects RX1 yX1_nextInWay yX1_nextInWay, Cond.code yX1_nextInWay cX1_nextInWay 6 (some .int), Cond.fieldLink RX1 123 "StakeWeirs$Barge" "place" "I", Cond.fieldLink RX1 120 "StakeWeirs$Barge" "wide" "I", Cond.methodLink RX1 141 yX2_isInWay, Cond.instanceMethod yX2_isInWay, Cond.selects RX2 yX2_isInWay yX2_isInWay, Cond.code yX2_isInWay cX2_isInWay 2 (some .boolean), Cond.methodLink RX2 37 yX2_isFishing, Cond.methodLink RX1 169 yX0_goOn, Cond.instanceMethod yX0_goOn, Cond.selects RX0 yX0_goOn yX0_goOn]
def wsX3_lasts_r6 : List Cond := [Cond.code yX0_goOn cX0_goOn 2 none, Cond.methodLink RX0 24 Lib.Math.min.name, Cond.methodLink RX1 173 yX1_breakThrough, Cond.instanceMethod yX1_breakThrough, Cond.selects RX1 yX1_breakThrough yX1_breakThrough, Cond.code yX1_breakThrough cX1_breakThrough 4 none, Cond.fieldLink RX1 124 "StakeWeirs$Barge" "broken" "I", Cond.methodLink RX1 176 yX2_breakFor, Cond.instanceMethod yX2_breakFor, Cond.selects RX2 yX2_breakFor yX2_breakFor, Cond.code yX2_breakFor cX2_breakFor 3 (some .int), Cond.methodLink RX2 47 yX2_loseWattle, Cond.instanceMethod yX2_loseWattle, Cond.selects RX2 yX2_loseWattle yX2_loseWattle, Cond.code yX2_loseWattle cX2_loseWattle 2 none, Cond.methodLink RX1 154 yX1_leaveOutArrived, Cond.instanceMethod yX1_leaveOutArrived, Cond.selects RX1 yX1_leaveOutArrived yX1_leaveOutArrived, Cond.code yX1_leaveOutArrived cX1_leaveOutArrived 4 none, Cond.methodLink RX1 157 yX1_rotWattle, Cond.instanceMethod yX1_rotWattle, Cond.selects RX1 yX1_rotWattle yX1_rotWattle, Cond.code yX1_rotWattle cX1_rotWattle 4 none, Cond.methodLink RX1 131 yX2_isHeld]
def wsX3_lasts_r7 : List Cond := [Cond.methodLink RX1 179 yX2_loseWattle, Cond.methodLink RX1 160 yX1_collectRents, Cond.instanceMethod yX1_collectRents, Cond.selects RX1 yX1_collectRents yX1_collectRents, Cond.code yX1_collectRents cX1_collectRents 3 none, Cond.methodLink RX1 182 yX2_payRent, Cond.instanceMethod yX2_payRent, Cond.selects RX2 yX2_payRent yX2_payRent, Cond.code yX2_payRent cX2_payRent 1 (some .int)]
def wsX3_lasts : List Cond := .code yX3_lasts cX3_lasts 4 (some .int) :: ((wsX3_lasts_r1 ++ (wsX3_lasts_r2 ++ (wsX3_lasts_r3 ++ (wsX3_lasts_r4 ++ (wsX3_lasts_r5 ++ (wsX3_lasts_r6 ++ wsX3_lasts_r7)))))) ++ wsX30 ++ wsX20 ++ wsX10 ++ wsX00 ++ (vx_atS RX3 51 "java/lang/IndexOutOfBoundsException" ["java/lang/RuntimeException", "java/lang/Exception"]).filter goodWord)
def wsX3_foresee_r1 : List Cond := [Cond.classLink RX3 23 "java/lang/IllegalArgumentException", Cond.initialized "java/lang/IllegalArgumentException", Cond.classLink RX3 47 "java/lang/IndexOutOfBoundsException", Cond.initialized "java/lang/IndexOutOfBoundsException", Cond.fieldLink RX3 16 "StakeWeirs" "trial" "LStakeWeirs$Estuary;", Cond.fieldLink RX3 12 "StakeWeirs" "now" "LStakeWeirs$Estuary;", Cond.methodLink RX3 19 yX3_isWithin, Cond.static yX3_isWithin, Cond.initialized RX3, Cond.code yX3_isWithin cX3_isWithin 3 (some .boolean), Cond.methodLink RX3 149 yX1_copyFrom, Cond.instanceMethod yX1_copyFrom, Cond.selects RX1 yX1_copyFrom yX1_copyFrom, Cond.initialized RX1, Cond.code yX1_copyFrom cX1_copyFrom 3 none, Cond.fieldLink RX1 9 "StakeWeirs$Estuary" "table" "[I", Cond.fieldLink RX1 15 "StakeWeirs$Estuary" "order" "[I", Cond.fieldLink RX1 39 "StakeWeirs$Estuary" "weirCount" "I", Cond.fieldLink RX1 51 "StakeWeirs$Estuary" "bargeCount" "I", Cond.fieldLink RX1 62 "StakeWeirs$Estuary" "night" "I", Cond.fieldLink RX1 65 "StakeWeirs$Estuary" "arrived" "I", Cond.fieldLink RX1 68 "StakeWeirs$Estuary" "fines" "I", Cond.fieldLink RX1 71 "StakeWeirs$Estuary" "rents" "I", Cond.methodLink RX1 32 yX1_tableEels]
def wsX3_foresee_r2 : List Cond := [Cond.instanceMethod yX1_tableEels, Cond.selects RX1 yX1_tableEels yX1_tableEels, Cond.code yX1_tableEels cX1_tableEels 2 (some .int), Cond.methodLink RX1 36 yX1_inOrder, Cond.instanceMethod yX1_inOrder, Cond.selects RX1 yX1_inOrder yX1_inOrder, Cond.code yX1_inOrder cX1_inOrder 2 (some .int), Cond.methodLink RX1 43 yX1_weirAt, Cond.instanceMethod yX1_weirAt, Cond.selects RX1 yX1_weirAt yX1_weirAt, Cond.code yX1_weirAt cX1_weirAt 3 (some (.object "StakeWeirs$Weir")), Cond.fieldLink RX1 20 "StakeWeirs$Estuary" "weirs" "[LStakeWeirs$Weir;", Cond.methodLink RX1 47 yX1_copyWeir, Cond.static yX1_copyWeir, Cond.code yX1_copyWeir cX1_copyWeir 2 none, Cond.methodLink RX1 74 yX2_copyFrom, Cond.instanceMethod yX2_copyFrom, Cond.selects RX2 yX2_copyFrom yX2_copyFrom, Cond.initialized RX2, Cond.code yX2_copyFrom cX2_copyFrom 2 none, Cond.fieldLink RX2 9 "StakeWeirs$Weir" "place" "I", Cond.fieldLink RX2 15 "StakeWeirs$Weir" "stakes" "I", Cond.fieldLink RX2 18 "StakeWeirs$Weir" "wattle" "I", Cond.fieldLink RX2 21 "StakeWeirs$Weir" "rent" "I"]
def wsX3_foresee_r3 : List Cond := [Cond.fieldLink RX2 24 "StakeWeirs$Weir" "coins" "I", Cond.fieldLink RX2 27 "StakeWeirs$Weir" "eels" "I", Cond.fieldLink RX2 30 "StakeWeirs$Weir" "open" "Z", Cond.fieldLink RX2 34 "StakeWeirs$Weir" "owed" "I", Cond.methodLink RX1 54 yX1_bargeAt, Cond.instanceMethod yX1_bargeAt, Cond.selects RX1 yX1_bargeAt yX1_bargeAt, Cond.code yX1_bargeAt cX1_bargeAt 3 (some (.object "StakeWeirs$Barge")), Cond.fieldLink RX1 27 "StakeWeirs$Estuary" "barges" "[LStakeWeirs$Barge;", Cond.methodLink RX1 58 yX1_copyBarge, Cond.static yX1_copyBarge, Cond.code yX1_copyBarge cX1_copyBarge 2 none, Cond.methodLink RX1 78 yX0_copyFrom, Cond.instanceMethod yX0_copyFrom, Cond.selects RX0 yX0_copyFrom yX0_copyFrom, Cond.initialized RX0, Cond.code yX0_copyFrom cX0_copyFrom 2 none, Cond.fieldLink RX0 9 "StakeWeirs$Barge" "ticket" "I", Cond.fieldLink RX0 15 "StakeWeirs$Barge" "wide" "I", Cond.fieldLink RX0 18 "StakeWeirs$Barge" "place" "I", Cond.fieldLink RX0 21 "StakeWeirs$Barge" "broken" "I", Cond.methodLink RX3 145 yX1_goThroughNights, Cond.instanceMethod yX1_goThroughNights, Cond.selects RX1 yX1_goThroughNights yX1_goThroughNights]
def wsX3_foresee_r4 : List Cond := [Cond.code yX1_goThroughNights cX1_goThroughNights 3 none, Cond.methodLink RX1 148 yX1_catchEels, Cond.instanceMethod yX1_catchEels, Cond.selects RX1 yX1_catchEels yX1_catchEels, Cond.code yX1_catchEels cX1_catchEels 4 none, Cond.methodLink RX1 111 yX1_run, Cond.instanceMethod yX1_run, Cond.selects RX1 yX1_run yX1_run, Cond.code yX1_run cX1_run 3 (some .int), Cond.methodLink RX1 101 yJ9_floorMod_7cf53, Cond.static yJ9_floorMod_7cf53, Cond.initialized RJ9, Cond.code yJ9_floorMod_7cf53 cJ9_floorMod_7cf53 3 (some .int), Cond.methodLink RX1 107 yX1_moon, Cond.instanceMethod yX1_moon, Cond.selects RX1 yX1_moon yX1_moon, Cond.code yX1_moon cX1_moon 2 (some .int), Cond.methodLink RX1 163 yX2_isFishing, Cond.instanceMethod yX2_isFishing, Cond.selects RX2 yX2_isFishing yX2_isFishing, Cond.code yX2_isFishing cX2_isFishing 1 (some .boolean), Cond.methodLink RX1 166 yX2_catchOf, Cond.instanceMethod yX2_catchOf, Cond.selects RX2 yX2_catchOf yX2_catchOf]
def wsX3_foresee_r5 : List Cond := [Cond.code yX2_catchOf cX2_catchOf 3 (some .int), Cond.methodLink RX2 41 Lib.Math.min.name, Cond.static Lib.Math.min.name, Cond.initialized "java/lang/Math", Cond.code Lib.Math.min.name Lib.Math.min.code 2 (some .int), Cond.methodLink RX1 151 yX1_moveBarges, Cond.instanceMethod yX1_moveBarges, Cond.selects RX1 yX1_moveBarges yX1_moveBarges, Cond.code yX1_moveBarges cX1_moveBarges 4 none, Cond.fieldLink RX1 93 "StakeWeirs$Weir" "place" "I", Cond.methodLink RX1 127 yX1_nextInWay, Cond.instanceMethod yX1_nextInWay, Cond.selects RX1 yX1_nextInWay yX1_nextInWay, Cond.code yX1_nextInWay cX1_nextInWay 6 (some .int), Cond.fieldLink RX1 123 "StakeWeirs$Barge" "place" "I", Cond.fieldLink RX1 120 "StakeWeirs$Barge" "wide" "I", Cond.methodLink RX1 141 yX2_isInWay, Cond.instanceMethod yX2_isInWay, Cond.selects RX2 yX2_isInWay yX2_isInWay, Cond.code yX2_isInWay cX2_isInWay 2 (some .boolean), Cond.methodLink RX2 37 yX2_isFishing, Cond.methodLink RX1 169 yX0_goOn, Cond.instanceMethod yX0_goOn, Cond.selects RX0 yX0_goOn yX0_goOn]
def wsX3_foresee_r6 : List Cond := [Cond.code yX0_goOn cX0_goOn 2 none, Cond.methodLink RX0 24 Lib.Math.min.name, Cond.methodLink RX1 173 yX1_breakThrough, Cond.instanceMethod yX1_breakThrough, Cond.selects RX1 yX1_breakThrough yX1_breakThrough, Cond.code yX1_breakThrough cX1_breakThrough 4 none, Cond.fieldLink RX1 124 "StakeWeirs$Barge" "broken" "I", Cond.methodLink RX1 176 yX2_breakFor, Cond.instanceMethod yX2_breakFor, Cond.selects RX2 yX2_breakFor yX2_breakFor, Cond.code yX2_breakFor cX2_breakFor 3 (some .int), Cond.methodLink RX2 47 yX2_loseWattle, Cond.instanceMethod yX2_loseWattle, Cond.selects RX2 yX2_loseWattle yX2_loseWattle, Cond.code yX2_loseWattle cX2_loseWattle 2 none, Cond.methodLink RX1 154 yX1_leaveOutArrived, Cond.instanceMethod yX1_leaveOutArrived, Cond.selects RX1 yX1_leaveOutArrived yX1_leaveOutArrived, Cond.code yX1_leaveOutArrived cX1_leaveOutArrived 4 none, Cond.methodLink RX1 157 yX1_rotWattle, Cond.instanceMethod yX1_rotWattle, Cond.selects RX1 yX1_rotWattle yX1_rotWattle, Cond.code yX1_rotWattle cX1_rotWattle 4 none, Cond.methodLink RX1 131 yX2_isHeld]
def wsX3_foresee_r7 : List Cond := [Cond.instanceMethod yX2_isHeld, Cond.selects RX2 yX2_isHeld yX2_isHeld, Cond.code yX2_isHeld cX2_isHeld 1 (some .boolean), Cond.methodLink RX1 179 yX2_loseWattle, Cond.methodLink RX1 160 yX1_collectRents, Cond.instanceMethod yX1_collectRents, Cond.selects RX1 yX1_collectRents yX1_collectRents, Cond.code yX1_collectRents cX1_collectRents 3 none, Cond.methodLink RX1 182 yX2_payRent, Cond.instanceMethod yX2_payRent, Cond.selects RX2 yX2_payRent yX2_payRent, Cond.code yX2_payRent cX2_payRent 1 (some .int), Cond.methodLink RX3 133 yX1_fact, Cond.instanceMethod yX1_fact, Cond.selects RX1 yX1_fact yX1_fact, Cond.code yX1_fact cX1_fact 2 (some .int), Cond.methodLink RX1 114 yX1_heldWeirs, Cond.instanceMethod yX1_heldWeirs, Cond.selects RX1 yX1_heldWeirs yX1_heldWeirs, Cond.code yX1_heldWeirs cX1_heldWeirs 4 (some .int), Cond.methodLink RX1 117 yX1_allEels, Cond.instanceMethod yX1_allEels, Cond.selects RX1 yX1_allEels yX1_allEels, Cond.code yX1_allEels cX1_allEels 4 (some .int)]
def wsX3_foresee_r8 : List Cond := [Cond.fieldLink RX1 138 "StakeWeirs$Weir" "eels" "I"]
def wsX3_foresee : List Cond := .code yX3_foresee cX3_foresee 3 (some .int) :: ((wsX3_foresee_r1 ++ (wsX3_foresee_r2 ++ (wsX3_foresee_r3 ++ (wsX3_foresee_r4 ++ (wsX3_foresee_r5 ++ (wsX3_foresee_r6 ++ (wsX3_foresee_r7 ++ wsX3_foresee_r8))))))) ++ wsX30 ++ wsX10 ++ wsX20 ++ wsX00 ++ (vx_atS RX3 27 "java/lang/IllegalArgumentException" ["java/lang/RuntimeException", "java/lang/Exception"]).filter goodWord ++ (vx_atS RX3 51 "java/lang/IndexOutOfBoundsException" ["java/lang/RuntimeException", "java/lang/Exception"]).filter goodWord)
def wsX3_eelsWithStakes_r1 : List Cond := [Cond.fieldLink RX3 16 "StakeWeirs" "trial" "LStakeWeirs$Estuary;", Cond.fieldLink RX3 12 "StakeWeirs" "now" "LStakeWeirs$Estuary;", Cond.fieldLink RX3 76 "StakeWeirs$Weir" "stakes" "I", Cond.fieldLink RX3 81 "StakeWeirs$Weir" "eels" "I", Cond.methodLink RX3 149 yX1_copyFrom, Cond.instanceMethod yX1_copyFrom, Cond.selects RX1 yX1_copyFrom yX1_copyFrom, Cond.initialized RX1, Cond.code yX1_copyFrom cX1_copyFrom 3 none, Cond.fieldLink RX1 9 "StakeWeirs$Estuary" "table" "[I", Cond.fieldLink RX1 15 "StakeWeirs$Estuary" "order" "[I", Cond.fieldLink RX1 39 "StakeWeirs$Estuary" "weirCount" "I", Cond.fieldLink RX1 51 "StakeWeirs$Estuary" "bargeCount" "I", Cond.fieldLink RX1 62 "StakeWeirs$Estuary" "night" "I", Cond.fieldLink RX1 65 "StakeWeirs$Estuary" "arrived" "I", Cond.fieldLink RX1 68 "StakeWeirs$Estuary" "fines" "I", Cond.fieldLink RX1 71 "StakeWeirs$Estuary" "rents" "I", Cond.methodLink RX1 32 yX1_tableEels, Cond.instanceMethod yX1_tableEels, Cond.selects RX1 yX1_tableEels yX1_tableEels, Cond.code yX1_tableEels cX1_tableEels 2 (some .int), Cond.methodLink RX1 36 yX1_inOrder, Cond.instanceMethod yX1_inOrder, Cond.selects RX1 yX1_inOrder yX1_inOrder]
def wsX3_eelsWithStakes_r2 : List Cond := [Cond.code yX1_inOrder cX1_inOrder 2 (some .int), Cond.methodLink RX1 43 yX1_weirAt, Cond.instanceMethod yX1_weirAt, Cond.selects RX1 yX1_weirAt yX1_weirAt, Cond.code yX1_weirAt cX1_weirAt 3 (some (.object "StakeWeirs$Weir")), Cond.fieldLink RX1 20 "StakeWeirs$Estuary" "weirs" "[LStakeWeirs$Weir;", Cond.methodLink RX1 47 yX1_copyWeir, Cond.static yX1_copyWeir, Cond.code yX1_copyWeir cX1_copyWeir 2 none, Cond.methodLink RX1 74 yX2_copyFrom, Cond.instanceMethod yX2_copyFrom, Cond.selects RX2 yX2_copyFrom yX2_copyFrom, Cond.initialized RX2, Cond.code yX2_copyFrom cX2_copyFrom 2 none, Cond.fieldLink RX2 9 "StakeWeirs$Weir" "place" "I", Cond.fieldLink RX2 15 "StakeWeirs$Weir" "stakes" "I", Cond.fieldLink RX2 18 "StakeWeirs$Weir" "wattle" "I", Cond.fieldLink RX2 21 "StakeWeirs$Weir" "rent" "I", Cond.fieldLink RX2 24 "StakeWeirs$Weir" "coins" "I", Cond.fieldLink RX2 27 "StakeWeirs$Weir" "eels" "I", Cond.fieldLink RX2 30 "StakeWeirs$Weir" "open" "Z", Cond.fieldLink RX2 34 "StakeWeirs$Weir" "owed" "I", Cond.methodLink RX1 54 yX1_bargeAt, Cond.instanceMethod yX1_bargeAt]
def wsX3_eelsWithStakes_r3 : List Cond := [Cond.selects RX1 yX1_bargeAt yX1_bargeAt, Cond.code yX1_bargeAt cX1_bargeAt 3 (some (.object "StakeWeirs$Barge")), Cond.fieldLink RX1 27 "StakeWeirs$Estuary" "barges" "[LStakeWeirs$Barge;", Cond.methodLink RX1 58 yX1_copyBarge, Cond.static yX1_copyBarge, Cond.code yX1_copyBarge cX1_copyBarge 2 none, Cond.methodLink RX1 78 yX0_copyFrom, Cond.instanceMethod yX0_copyFrom, Cond.selects RX0 yX0_copyFrom yX0_copyFrom, Cond.initialized RX0, Cond.code yX0_copyFrom cX0_copyFrom 2 none, Cond.fieldLink RX0 9 "StakeWeirs$Barge" "ticket" "I", Cond.fieldLink RX0 15 "StakeWeirs$Barge" "wide" "I", Cond.fieldLink RX0 18 "StakeWeirs$Barge" "place" "I", Cond.fieldLink RX0 21 "StakeWeirs$Barge" "broken" "I", Cond.methodLink RX3 43 yX1_weirAt, Cond.methodLink RX3 145 yX1_goThroughNights, Cond.instanceMethod yX1_goThroughNights, Cond.selects RX1 yX1_goThroughNights yX1_goThroughNights, Cond.code yX1_goThroughNights cX1_goThroughNights 3 none, Cond.methodLink RX1 148 yX1_catchEels, Cond.instanceMethod yX1_catchEels, Cond.selects RX1 yX1_catchEels yX1_catchEels, Cond.code yX1_catchEels cX1_catchEels 4 none]
def wsX3_eelsWithStakes_r4 : List Cond := [Cond.methodLink RX1 111 yX1_run, Cond.instanceMethod yX1_run, Cond.selects RX1 yX1_run yX1_run, Cond.code yX1_run cX1_run 3 (some .int), Cond.methodLink RX1 101 yJ9_floorMod_7cf53, Cond.static yJ9_floorMod_7cf53, Cond.initialized RJ9, Cond.code yJ9_floorMod_7cf53 cJ9_floorMod_7cf53 3 (some .int), Cond.methodLink RX1 107 yX1_moon, Cond.instanceMethod yX1_moon, Cond.selects RX1 yX1_moon yX1_moon, Cond.code yX1_moon cX1_moon 2 (some .int), Cond.methodLink RX1 163 yX2_isFishing, Cond.instanceMethod yX2_isFishing, Cond.selects RX2 yX2_isFishing yX2_isFishing, Cond.code yX2_isFishing cX2_isFishing 1 (some .boolean), Cond.methodLink RX1 166 yX2_catchOf, Cond.instanceMethod yX2_catchOf, Cond.selects RX2 yX2_catchOf yX2_catchOf, Cond.code yX2_catchOf cX2_catchOf 3 (some .int), Cond.methodLink RX2 41 Lib.Math.min.name, Cond.static Lib.Math.min.name, Cond.initialized "java/lang/Math", Cond.code Lib.Math.min.name Lib.Math.min.code 2 (some .int)]
def wsX3_eelsWithStakes_r5 : List Cond := [Cond.methodLink RX1 151 yX1_moveBarges, Cond.instanceMethod yX1_moveBarges, Cond.selects RX1 yX1_moveBarges yX1_moveBarges, Cond.code yX1_moveBarges cX1_moveBarges 4 none, Cond.fieldLink RX1 93 "StakeWeirs$Weir" "place" "I", Cond.methodLink RX1 127 yX1_nextInWay, Cond.instanceMethod yX1_nextInWay, Cond.selects RX1 yX1_nextInWay yX1_nextInWay, Cond.code yX1_nextInWay cX1_nextInWay 6 (some .int), Cond.fieldLink RX1 123 "StakeWeirs$Barge" "place" "I", Cond.fieldLink RX1 120 "StakeWeirs$Barge" "wide" "I", Cond.methodLink RX1 141 yX2_isInWay, Cond.instanceMethod yX2_isInWay, Cond.selects RX2 yX2_isInWay yX2_isInWay, Cond.code yX2_isInWay cX2_isInWay 2 (some .boolean), Cond.methodLink RX2 37 yX2_isFishing, Cond.methodLink RX1 169 yX0_goOn, Cond.instanceMethod yX0_goOn, Cond.selects RX0 yX0_goOn yX0_goOn, Cond.code yX0_goOn cX0_goOn 2 none, Cond.methodLink RX0 24 Lib.Math.min.name, Cond.methodLink RX1 173 yX1_breakThrough, Cond.instanceMethod yX1_breakThrough, Cond.selects RX1 yX1_breakThrough yX1_breakThrough]
def wsX3_eelsWithStakes_r6 : List Cond := [Cond.code yX1_breakThrough cX1_breakThrough 4 none, Cond.fieldLink RX1 124 "StakeWeirs$Barge" "broken" "I", Cond.methodLink RX1 176 yX2_breakFor, Cond.instanceMethod yX2_breakFor, Cond.selects RX2 yX2_breakFor yX2_breakFor, Cond.code yX2_breakFor cX2_breakFor 3 (some .int), Cond.methodLink RX2 47 yX2_loseWattle, Cond.instanceMethod yX2_loseWattle, Cond.selects RX2 yX2_loseWattle yX2_loseWattle, Cond.code yX2_loseWattle cX2_loseWattle 2 none, Cond.methodLink RX1 154 yX1_leaveOutArrived, Cond.instanceMethod yX1_leaveOutArrived, Cond.selects RX1 yX1_leaveOutArrived yX1_leaveOutArrived, Cond.code yX1_leaveOutArrived cX1_leaveOutArrived 4 none, Cond.methodLink RX1 157 yX1_rotWattle, Cond.instanceMethod yX1_rotWattle, Cond.selects RX1 yX1_rotWattle yX1_rotWattle, Cond.code yX1_rotWattle cX1_rotWattle 4 none, Cond.methodLink RX1 131 yX2_isHeld, Cond.instanceMethod yX2_isHeld, Cond.selects RX2 yX2_isHeld yX2_isHeld, Cond.code yX2_isHeld cX2_isHeld 1 (some .boolean), Cond.methodLink RX1 179 yX2_loseWattle, Cond.methodLink RX1 160 yX1_collectRents]
def wsX3_eelsWithStakes_r7 : List Cond := [Cond.instanceMethod yX1_collectRents, Cond.selects RX1 yX1_collectRents yX1_collectRents, Cond.code yX1_collectRents cX1_collectRents 3 none, Cond.methodLink RX1 182 yX2_payRent, Cond.instanceMethod yX2_payRent, Cond.selects RX2 yX2_payRent yX2_payRent, Cond.code yX2_payRent cX2_payRent 1 (some .int)]
def wsX3_eelsWithStakes : List Cond := .code yX3_eelsWithStakes cX3_eelsWithStakes 5 (some .int) :: ((wsX3_eelsWithStakes_r1 ++ (wsX3_eelsWithStakes_r2 ++ (wsX3_eelsWithStakes_r3 ++ (wsX3_eelsWithStakes_r4 ++ (wsX3_eelsWithStakes_r5 ++ (wsX3_eelsWithStakes_r6 ++ wsX3_eelsWithStakes_r7)))))) ++ wsX30 ++ wsX20 ++ wsX10 ++ wsX00)
def wsX3_advise_r1 : List Cond := [Cond.classLink RX3 47 "java/lang/IndexOutOfBoundsException", Cond.initialized "java/lang/IndexOutOfBoundsException", Cond.classLink RX3 23 "java/lang/IllegalArgumentException", Cond.initialized "java/lang/IllegalArgumentException", Cond.fieldLink RX3 12 "StakeWeirs" "now" "LStakeWeirs$Estuary;", Cond.methodLink RX3 43 yX1_weirAt, Cond.instanceMethod yX1_weirAt, Cond.selects RX1 yX1_weirAt yX1_weirAt, Cond.initialized RX1, Cond.code yX1_weirAt cX1_weirAt 3 (some (.object "StakeWeirs$Weir")), Cond.fieldLink RX1 39 "StakeWeirs$Estuary" "weirCount" "I", Cond.fieldLink RX1 20 "StakeWeirs$Estuary" "weirs" "[LStakeWeirs$Weir;", Cond.methodLink RX3 19 yX3_isWithin, Cond.static yX3_isWithin, Cond.initialized RX3, Cond.code yX3_isWithin cX3_isWithin 3 (some .boolean), Cond.methodLink RX3 173 yX2_isFishing, Cond.instanceMethod yX2_isFishing, Cond.selects RX2 yX2_isFishing yX2_isFishing, Cond.initialized RX2, Cond.code yX2_isFishing cX2_isFishing 1 (some .boolean), Cond.fieldLink RX2 34 "StakeWeirs$Weir" "owed" "I", Cond.fieldLink RX2 30 "StakeWeirs$Weir" "open" "Z", Cond.methodLink RX3 176 yX3_eelsWithStakes]
def wsX3_advise_r2 : List Cond := [Cond.instanceMethod yX3_eelsWithStakes, Cond.selects RX3 yX3_eelsWithStakes yX3_eelsWithStakes, Cond.code yX3_eelsWithStakes cX3_eelsWithStakes 5 (some .int), Cond.fieldLink RX3 16 "StakeWeirs" "trial" "LStakeWeirs$Estuary;", Cond.fieldLink RX3 76 "StakeWeirs$Weir" "stakes" "I", Cond.fieldLink RX3 81 "StakeWeirs$Weir" "eels" "I", Cond.methodLink RX3 149 yX1_copyFrom, Cond.instanceMethod yX1_copyFrom, Cond.selects RX1 yX1_copyFrom yX1_copyFrom, Cond.code yX1_copyFrom cX1_copyFrom 3 none, Cond.fieldLink RX1 9 "StakeWeirs$Estuary" "table" "[I", Cond.fieldLink RX1 15 "StakeWeirs$Estuary" "order" "[I", Cond.fieldLink RX1 51 "StakeWeirs$Estuary" "bargeCount" "I", Cond.fieldLink RX1 62 "StakeWeirs$Estuary" "night" "I", Cond.fieldLink RX1 65 "StakeWeirs$Estuary" "arrived" "I", Cond.fieldLink RX1 68 "StakeWeirs$Estuary" "fines" "I", Cond.fieldLink RX1 71 "StakeWeirs$Estuary" "rents" "I", Cond.methodLink RX1 32 yX1_tableEels, Cond.instanceMethod yX1_tableEels, Cond.selects RX1 yX1_tableEels yX1_tableEels, Cond.code yX1_tableEels cX1_tableEels 2 (some .int), Cond.methodLink RX1 36 yX1_inOrder, Cond.instanceMethod yX1_inOrder, Cond.selects RX1 yX1_inOrder yX1_inOrder]
def wsX3_advise_r3 : List Cond := [Cond.code yX1_inOrder cX1_inOrder 2 (some .int), Cond.methodLink RX1 43 yX1_weirAt, Cond.methodLink RX1 47 yX1_copyWeir, Cond.static yX1_copyWeir, Cond.code yX1_copyWeir cX1_copyWeir 2 none, Cond.methodLink RX1 74 yX2_copyFrom, Cond.instanceMethod yX2_copyFrom, Cond.selects RX2 yX2_copyFrom yX2_copyFrom, Cond.code yX2_copyFrom cX2_copyFrom 2 none, Cond.fieldLink RX2 9 "StakeWeirs$Weir" "place" "I", Cond.fieldLink RX2 15 "StakeWeirs$Weir" "stakes" "I", Cond.fieldLink RX2 18 "StakeWeirs$Weir" "wattle" "I", Cond.fieldLink RX2 21 "StakeWeirs$Weir" "rent" "I", Cond.fieldLink RX2 24 "StakeWeirs$Weir" "coins" "I", Cond.fieldLink RX2 27 "StakeWeirs$Weir" "eels" "I", Cond.methodLink RX1 54 yX1_bargeAt, Cond.instanceMethod yX1_bargeAt, Cond.selects RX1 yX1_bargeAt yX1_bargeAt, Cond.code yX1_bargeAt cX1_bargeAt 3 (some (.object "StakeWeirs$Barge")), Cond.fieldLink RX1 27 "StakeWeirs$Estuary" "barges" "[LStakeWeirs$Barge;", Cond.methodLink RX1 58 yX1_copyBarge, Cond.static yX1_copyBarge, Cond.code yX1_copyBarge cX1_copyBarge 2 none, Cond.methodLink RX1 78 yX0_copyFrom]
def wsX3_advise_r4 : List Cond := [Cond.instanceMethod yX0_copyFrom, Cond.selects RX0 yX0_copyFrom yX0_copyFrom, Cond.initialized RX0, Cond.code yX0_copyFrom cX0_copyFrom 2 none, Cond.fieldLink RX0 9 "StakeWeirs$Barge" "ticket" "I", Cond.fieldLink RX0 15 "StakeWeirs$Barge" "wide" "I", Cond.fieldLink RX0 18 "StakeWeirs$Barge" "place" "I", Cond.fieldLink RX0 21 "StakeWeirs$Barge" "broken" "I", Cond.methodLink RX3 145 yX1_goThroughNights, Cond.instanceMethod yX1_goThroughNights, Cond.selects RX1 yX1_goThroughNights yX1_goThroughNights, Cond.code yX1_goThroughNights cX1_goThroughNights 3 none, Cond.methodLink RX1 148 yX1_catchEels, Cond.instanceMethod yX1_catchEels, Cond.selects RX1 yX1_catchEels yX1_catchEels, Cond.code yX1_catchEels cX1_catchEels 4 none, Cond.methodLink RX1 111 yX1_run, Cond.instanceMethod yX1_run, Cond.selects RX1 yX1_run yX1_run, Cond.code yX1_run cX1_run 3 (some .int), Cond.methodLink RX1 101 yJ9_floorMod_7cf53, Cond.static yJ9_floorMod_7cf53, Cond.initialized RJ9, Cond.code yJ9_floorMod_7cf53 cJ9_floorMod_7cf53 3 (some .int)]
def wsX3_advise_r5 : List Cond := [Cond.methodLink RX1 107 yX1_moon, Cond.instanceMethod yX1_moon, Cond.selects RX1 yX1_moon yX1_moon, Cond.code yX1_moon cX1_moon 2 (some .int), Cond.methodLink RX1 163 yX2_isFishing, Cond.methodLink RX1 166 yX2_catchOf, Cond.instanceMethod yX2_catchOf, Cond.selects RX2 yX2_catchOf yX2_catchOf, Cond.code yX2_catchOf cX2_catchOf 3 (some .int), Cond.methodLink RX2 41 Lib.Math.min.name, Cond.static Lib.Math.min.name, Cond.initialized "java/lang/Math", Cond.code Lib.Math.min.name Lib.Math.min.code 2 (some .int), Cond.methodLink RX1 151 yX1_moveBarges, Cond.instanceMethod yX1_moveBarges, Cond.selects RX1 yX1_moveBarges yX1_moveBarges, Cond.code yX1_moveBarges cX1_moveBarges 4 none, Cond.fieldLink RX1 93 "StakeWeirs$Weir" "place" "I", Cond.methodLink RX1 127 yX1_nextInWay, Cond.instanceMethod yX1_nextInWay, Cond.selects RX1 yX1_nextInWay yX1_nextInWay, Cond.code yX1_nextInWay cX1_nextInWay 6 (some .int), Cond.fieldLink RX1 123 "StakeWeirs$Barge" "place" "I", Cond.fieldLink RX1 120 "StakeWeirs$Barge" "wide" "I"]
def wsX3_advise_r6 : List Cond := [Cond.methodLink RX1 141 yX2_isInWay, Cond.instanceMethod yX2_isInWay, Cond.selects RX2 yX2_isInWay yX2_isInWay, Cond.code yX2_isInWay cX2_isInWay 2 (some .boolean), Cond.methodLink RX2 37 yX2_isFishing, Cond.methodLink RX1 169 yX0_goOn, Cond.instanceMethod yX0_goOn, Cond.selects RX0 yX0_goOn yX0_goOn, Cond.code yX0_goOn cX0_goOn 2 none, Cond.methodLink RX0 24 Lib.Math.min.name, Cond.methodLink RX1 173 yX1_breakThrough, Cond.instanceMethod yX1_breakThrough, Cond.selects RX1 yX1_breakThrough yX1_breakThrough, Cond.code yX1_breakThrough cX1_breakThrough 4 none, Cond.fieldLink RX1 124 "StakeWeirs$Barge" "broken" "I", Cond.methodLink RX1 176 yX2_breakFor, Cond.instanceMethod yX2_breakFor, Cond.selects RX2 yX2_breakFor yX2_breakFor, Cond.code yX2_breakFor cX2_breakFor 3 (some .int), Cond.methodLink RX2 47 yX2_loseWattle, Cond.instanceMethod yX2_loseWattle, Cond.selects RX2 yX2_loseWattle yX2_loseWattle, Cond.code yX2_loseWattle cX2_loseWattle 2 none, Cond.methodLink RX1 154 yX1_leaveOutArrived]
def wsX3_advise_r7 : List Cond := [Cond.instanceMethod yX1_leaveOutArrived, Cond.selects RX1 yX1_leaveOutArrived yX1_leaveOutArrived, Cond.code yX1_leaveOutArrived cX1_leaveOutArrived 4 none, Cond.methodLink RX1 157 yX1_rotWattle, Cond.instanceMethod yX1_rotWattle, Cond.selects RX1 yX1_rotWattle yX1_rotWattle, Cond.code yX1_rotWattle cX1_rotWattle 4 none, Cond.methodLink RX1 131 yX2_isHeld, Cond.instanceMethod yX2_isHeld, Cond.selects RX2 yX2_isHeld yX2_isHeld, Cond.code yX2_isHeld cX2_isHeld 1 (some .boolean), Cond.methodLink RX1 179 yX2_loseWattle, Cond.methodLink RX1 160 yX1_collectRents, Cond.instanceMethod yX1_collectRents, Cond.selects RX1 yX1_collectRents yX1_collectRents, Cond.code yX1_collectRents cX1_collectRents 3 none, Cond.methodLink RX1 182 yX2_payRent, Cond.instanceMethod yX2_payRent, Cond.selects RX2 yX2_payRent yX2_payRent, Cond.code yX2_payRent cX2_payRent 1 (some .int)]
def wsX3_advise : List Cond := .code yX3_advise cX3_advise 8 (some .int) :: ((wsX3_advise_r1 ++ (wsX3_advise_r2 ++ (wsX3_advise_r3 ++ (wsX3_advise_r4 ++ (wsX3_advise_r5 ++ (wsX3_advise_r6 ++ wsX3_advise_r7)))))) ++ wsX30 ++ wsX10 ++ wsX20 ++ wsX00 ++ (vx_atS RX3 51 "java/lang/IndexOutOfBoundsException" ["java/lang/RuntimeException", "java/lang/Exception"]).filter goodWord ++ (vx_atS RX3 27 "java/lang/IllegalArgumentException" ["java/lang/RuntimeException", "java/lang/Exception"]).filter goodWord)
def wsX3_mean : List Cond := .code yX3_mean cX3_mean 2 (some .double) :: ([.fieldLink RX3 12 "StakeWeirs" "now" "LStakeWeirs$Estuary;", .methodLink RX3 179 yX1_heldWeirs, .instanceMethod yX1_heldWeirs, .selects RX1 yX1_heldWeirs yX1_heldWeirs, .initialized RX1, .code yX1_heldWeirs cX1_heldWeirs 4 (some .int), .fieldLink RX1 39 "StakeWeirs$Estuary" "weirCount" "I", .methodLink RX1 43 yX1_weirAt, .instanceMethod yX1_weirAt, .selects RX1 yX1_weirAt yX1_weirAt, .code yX1_weirAt cX1_weirAt 3 (some (.object "StakeWeirs$Weir")), .fieldLink RX1 20 "StakeWeirs$Estuary" "weirs" "[LStakeWeirs$Weir;", .methodLink RX1 131 yX2_isHeld, .instanceMethod yX2_isHeld, .selects RX2 yX2_isHeld yX2_isHeld, .initialized RX2, .code yX2_isHeld cX2_isHeld 1 (some .boolean), .fieldLink RX2 34 "StakeWeirs$Weir" "owed" "I", .methodLink RX3 182 yX1_heldWattle, .instanceMethod yX1_heldWattle, .selects RX1 yX1_heldWattle yX1_heldWattle, .code yX1_heldWattle cX1_heldWattle 4 (some .int), .fieldLink RX1 135 "StakeWeirs$Weir" "wattle" "I"] ++ wsX30 ++ wsX10 ++ wsX20)
def wsX3_digestOfWeirs : List Cond := .code yX3_digestOfWeirs cX3_digestOfWeirs 8 (some .long) :: ([.fieldLink RX3 12 "StakeWeirs" "now" "LStakeWeirs$Estuary;", .fieldLink RX3 30 "StakeWeirs$Estuary" "weirCount" "I", .constantLong RX3 187 (31), .methodLink RX3 43 yX1_weirAt, .instanceMethod yX1_weirAt, .selects RX1 yX1_weirAt yX1_weirAt, .initialized RX1, .code yX1_weirAt cX1_weirAt 3 (some (.object "StakeWeirs$Weir")), .fieldLink RX1 39 "StakeWeirs$Estuary" "weirCount" "I", .fieldLink RX1 20 "StakeWeirs$Estuary" "weirs" "[LStakeWeirs$Weir;", .methodLink RX3 118 yX2_fact, .instanceMethod yX2_fact, .selects RX2 yX2_fact yX2_fact, .initialized RX2, .code yX2_fact cX2_fact 2 (some .int), .fieldLink RX2 9 "StakeWeirs$Weir" "place" "I", .fieldLink RX2 15 "StakeWeirs$Weir" "stakes" "I", .fieldLink RX2 18 "StakeWeirs$Weir" "wattle" "I", .fieldLink RX2 21 "StakeWeirs$Weir" "rent" "I", .fieldLink RX2 24 "StakeWeirs$Weir" "coins" "I", .fieldLink RX2 27 "StakeWeirs$Weir" "eels" "I", .fieldLink RX2 30 "StakeWeirs$Weir" "open" "Z", .fieldLink RX2 34 "StakeWeirs$Weir" "owed" "I"] ++ wsX30 ++ wsX10 ++ wsX20)
def wsX3_digestOfBarges_r1 : List Cond := [Cond.fieldLink RX3 12 "StakeWeirs" "now" "LStakeWeirs$Estuary;", Cond.fieldLink RX3 108 "StakeWeirs$Estuary" "bargeCount" "I", Cond.constantLong RX3 187 (31), Cond.methodLink RX3 121 yX1_bargeAt, Cond.instanceMethod yX1_bargeAt, Cond.selects RX1 yX1_bargeAt yX1_bargeAt, Cond.initialized RX1, Cond.code yX1_bargeAt cX1_bargeAt 3 (some (.object "StakeWeirs$Barge")), Cond.fieldLink RX1 51 "StakeWeirs$Estuary" "bargeCount" "I", Cond.fieldLink RX1 27 "StakeWeirs$Estuary" "barges" "[LStakeWeirs$Barge;", Cond.methodLink RX3 127 yX1_bargeFact, Cond.instanceMethod yX1_bargeFact, Cond.selects RX1 yX1_bargeFact yX1_bargeFact, Cond.code yX1_bargeFact cX1_bargeFact 3 (some .int), Cond.fieldLink RX1 120 "StakeWeirs$Barge" "wide" "I", Cond.fieldLink RX1 123 "StakeWeirs$Barge" "place" "I", Cond.fieldLink RX1 124 "StakeWeirs$Barge" "broken" "I", Cond.methodLink RX1 127 yX1_nextInWay, Cond.instanceMethod yX1_nextInWay, Cond.selects RX1 yX1_nextInWay yX1_nextInWay, Cond.code yX1_nextInWay cX1_nextInWay 6 (some .int), Cond.fieldLink RX1 39 "StakeWeirs$Estuary" "weirCount" "I", Cond.fieldLink RX1 93 "StakeWeirs$Weir" "place" "I", Cond.methodLink RX1 43 yX1_weirAt]
def wsX3_digestOfBarges_r2 : List Cond := [Cond.instanceMethod yX1_weirAt, Cond.selects RX1 yX1_weirAt yX1_weirAt, Cond.code yX1_weirAt cX1_weirAt 3 (some (.object "StakeWeirs$Weir")), Cond.fieldLink RX1 20 "StakeWeirs$Estuary" "weirs" "[LStakeWeirs$Weir;", Cond.methodLink RX1 141 yX2_isInWay, Cond.instanceMethod yX2_isInWay, Cond.selects RX2 yX2_isInWay yX2_isInWay, Cond.initialized RX2, Cond.code yX2_isInWay cX2_isInWay 2 (some .boolean), Cond.fieldLink RX2 15 "StakeWeirs$Weir" "stakes" "I", Cond.methodLink RX2 37 yX2_isFishing, Cond.instanceMethod yX2_isFishing, Cond.selects RX2 yX2_isFishing yX2_isFishing, Cond.code yX2_isFishing cX2_isFishing 1 (some .boolean), Cond.fieldLink RX2 34 "StakeWeirs$Weir" "owed" "I", Cond.fieldLink RX2 30 "StakeWeirs$Weir" "open" "Z"]
def wsX3_digestOfBarges : List Cond := .code yX3_digestOfBarges cX3_digestOfBarges 8 (some .long) :: ((wsX3_digestOfBarges_r1 ++ wsX3_digestOfBarges_r2) ++ wsX30 ++ wsX10 ++ wsX00 ++ wsX20)
def wsX3_digest_r1 : List Cond := [Cond.constantLong RX3 185 (1409), Cond.constantLong RX3 187 (31), Cond.fieldLink RX3 12 "StakeWeirs" "now" "LStakeWeirs$Estuary;", Cond.methodLink RX3 133 yX1_fact, Cond.instanceMethod yX1_fact, Cond.selects RX1 yX1_fact yX1_fact, Cond.initialized RX1, Cond.code yX1_fact cX1_fact 2 (some .int), Cond.fieldLink RX1 62 "StakeWeirs$Estuary" "night" "I", Cond.fieldLink RX1 39 "StakeWeirs$Estuary" "weirCount" "I", Cond.fieldLink RX1 51 "StakeWeirs$Estuary" "bargeCount" "I", Cond.fieldLink RX1 65 "StakeWeirs$Estuary" "arrived" "I", Cond.fieldLink RX1 68 "StakeWeirs$Estuary" "fines" "I", Cond.fieldLink RX1 71 "StakeWeirs$Estuary" "rents" "I", Cond.methodLink RX1 107 yX1_moon, Cond.instanceMethod yX1_moon, Cond.selects RX1 yX1_moon yX1_moon, Cond.code yX1_moon cX1_moon 2 (some .int), Cond.methodLink RX1 101 yJ9_floorMod_7cf53, Cond.static yJ9_floorMod_7cf53, Cond.initialized RJ9, Cond.code yJ9_floorMod_7cf53 cJ9_floorMod_7cf53 3 (some .int), Cond.methodLink RX1 111 yX1_run, Cond.instanceMethod yX1_run]
def wsX3_digest_r2 : List Cond := [Cond.selects RX1 yX1_run yX1_run, Cond.code yX1_run cX1_run 3 (some .int), Cond.methodLink RX1 32 yX1_tableEels, Cond.instanceMethod yX1_tableEels, Cond.selects RX1 yX1_tableEels yX1_tableEels, Cond.code yX1_tableEels cX1_tableEels 2 (some .int), Cond.fieldLink RX1 9 "StakeWeirs$Estuary" "table" "[I", Cond.methodLink RX1 114 yX1_heldWeirs, Cond.instanceMethod yX1_heldWeirs, Cond.selects RX1 yX1_heldWeirs yX1_heldWeirs, Cond.code yX1_heldWeirs cX1_heldWeirs 4 (some .int), Cond.methodLink RX1 43 yX1_weirAt, Cond.instanceMethod yX1_weirAt, Cond.selects RX1 yX1_weirAt yX1_weirAt, Cond.code yX1_weirAt cX1_weirAt 3 (some (.object "StakeWeirs$Weir")), Cond.fieldLink RX1 20 "StakeWeirs$Estuary" "weirs" "[LStakeWeirs$Weir;", Cond.methodLink RX1 131 yX2_isHeld, Cond.instanceMethod yX2_isHeld, Cond.selects RX2 yX2_isHeld yX2_isHeld, Cond.initialized RX2, Cond.code yX2_isHeld cX2_isHeld 1 (some .boolean), Cond.fieldLink RX2 34 "StakeWeirs$Weir" "owed" "I", Cond.methodLink RX1 117 yX1_allEels, Cond.instanceMethod yX1_allEels]
def wsX3_digest_r3 : List Cond := [Cond.selects RX1 yX1_allEels yX1_allEels, Cond.code yX1_allEels cX1_allEels 4 (some .int), Cond.fieldLink RX1 138 "StakeWeirs$Weir" "eels" "I", Cond.methodLink RX3 98 yX1_tableEels, Cond.methodLink RX3 189 yX3_digestOfWeirs, Cond.instanceMethod yX3_digestOfWeirs, Cond.selects RX3 yX3_digestOfWeirs yX3_digestOfWeirs, Cond.initialized RX3, Cond.code yX3_digestOfWeirs cX3_digestOfWeirs 8 (some .long), Cond.fieldLink RX3 30 "StakeWeirs$Estuary" "weirCount" "I", Cond.methodLink RX3 43 yX1_weirAt, Cond.methodLink RX3 118 yX2_fact, Cond.instanceMethod yX2_fact, Cond.selects RX2 yX2_fact yX2_fact, Cond.code yX2_fact cX2_fact 2 (some .int), Cond.fieldLink RX2 9 "StakeWeirs$Weir" "place" "I", Cond.fieldLink RX2 15 "StakeWeirs$Weir" "stakes" "I", Cond.fieldLink RX2 18 "StakeWeirs$Weir" "wattle" "I", Cond.fieldLink RX2 21 "StakeWeirs$Weir" "rent" "I", Cond.fieldLink RX2 24 "StakeWeirs$Weir" "coins" "I", Cond.fieldLink RX2 27 "StakeWeirs$Weir" "eels" "I", Cond.fieldLink RX2 30 "StakeWeirs$Weir" "open" "Z", Cond.methodLink RX3 193 yX3_digestOfBarges, Cond.instanceMethod yX3_digestOfBarges]
def wsX3_digest_r4 : List Cond := [Cond.selects RX3 yX3_digestOfBarges yX3_digestOfBarges, Cond.code yX3_digestOfBarges cX3_digestOfBarges 8 (some .long), Cond.fieldLink RX3 108 "StakeWeirs$Estuary" "bargeCount" "I", Cond.methodLink RX3 121 yX1_bargeAt, Cond.instanceMethod yX1_bargeAt, Cond.selects RX1 yX1_bargeAt yX1_bargeAt, Cond.code yX1_bargeAt cX1_bargeAt 3 (some (.object "StakeWeirs$Barge")), Cond.fieldLink RX1 27 "StakeWeirs$Estuary" "barges" "[LStakeWeirs$Barge;", Cond.methodLink RX3 127 yX1_bargeFact, Cond.instanceMethod yX1_bargeFact, Cond.selects RX1 yX1_bargeFact yX1_bargeFact, Cond.code yX1_bargeFact cX1_bargeFact 3 (some .int), Cond.fieldLink RX1 120 "StakeWeirs$Barge" "wide" "I", Cond.fieldLink RX1 123 "StakeWeirs$Barge" "place" "I", Cond.fieldLink RX1 124 "StakeWeirs$Barge" "broken" "I", Cond.methodLink RX1 127 yX1_nextInWay, Cond.instanceMethod yX1_nextInWay, Cond.selects RX1 yX1_nextInWay yX1_nextInWay, Cond.code yX1_nextInWay cX1_nextInWay 6 (some .int), Cond.fieldLink RX1 93 "StakeWeirs$Weir" "place" "I", Cond.methodLink RX1 141 yX2_isInWay, Cond.instanceMethod yX2_isInWay, Cond.selects RX2 yX2_isInWay yX2_isInWay, Cond.code yX2_isInWay cX2_isInWay 2 (some .boolean)]
def wsX3_digest_r5 : List Cond := [Cond.methodLink RX2 37 yX2_isFishing, Cond.instanceMethod yX2_isFishing, Cond.selects RX2 yX2_isFishing yX2_isFishing, Cond.code yX2_isFishing cX2_isFishing 1 (some .boolean)]
def wsX3_digest : List Cond := .code yX3_digest cX3_digest 4 (some .long) :: ((wsX3_digest_r1 ++ (wsX3_digest_r2 ++ (wsX3_digest_r3 ++ (wsX3_digest_r4 ++ wsX3_digest_r5)))) ++ wsX30 ++ wsX10 ++ wsX20 ++ wsX00)
def wsX4_init : List Cond := .code yX4_init cX4_init 2 none :: ([.fieldLink RX4 3 "StakeWeirsModel$State" "this$0" "LStakeWeirsModel;", .methodLink RX4 9 objectInit, .instanceMethod objectInit, .code objectInit ⟨#[0xb1]⟩ 1 none, .arrayClass .int, .fieldLink RX4 15 "StakeWeirsModel$State" "stakes" "[I", .fieldLink RX4 19 "StakeWeirsModel$State" "wattle" "[I", .fieldLink RX4 22 "StakeWeirsModel$State" "coins" "[I", .fieldLink RX4 25 "StakeWeirsModel$State" "eels" "[I", .fieldLink RX4 28 "StakeWeirsModel$State" "open" "[I", .fieldLink RX4 31 "StakeWeirsModel$State" "owes" "[I", .fieldLink RX4 34 "StakeWeirsModel$State" "wide" "[I", .fieldLink RX4 37 "StakeWeirsModel$State" "at" "[I", .fieldLink RX4 40 "StakeWeirsModel$State" "broken" "[I", .fieldLink RX4 43 "StakeWeirsModel$State" "was" "[I"] ++ wsX40)
def wsX4_copy : List Cond := .code yX4_copy cX4_copy 3 none :: ([.methodLink RX4 46 arraycopyName, .native arraycopyName, .static arraycopyName, .initialized "java/lang/System"])
def wsX4_become : List Cond := .code yX4_become cX4_become 3 (some (.object "StakeWeirsModel$State")) :: ([.fieldLink RX4 52 "StakeWeirsModel$State" "night" "I", .fieldLink RX4 56 "StakeWeirsModel$State" "barges" "I", .fieldLink RX4 59 "StakeWeirsModel$State" "arrived" "I", .fieldLink RX4 62 "StakeWeirsModel$State" "fines" "I", .fieldLink RX4 65 "StakeWeirsModel$State" "rents" "I", .fieldLink RX4 15 "StakeWeirsModel$State" "stakes" "[I", .fieldLink RX4 19 "StakeWeirsModel$State" "wattle" "[I", .fieldLink RX4 22 "StakeWeirsModel$State" "coins" "[I", .fieldLink RX4 25 "StakeWeirsModel$State" "eels" "[I", .fieldLink RX4 28 "StakeWeirsModel$State" "open" "[I", .fieldLink RX4 31 "StakeWeirsModel$State" "owes" "[I", .fieldLink RX4 34 "StakeWeirsModel$State" "wide" "[I", .fieldLink RX4 37 "StakeWeirsModel$State" "at" "[I", .fieldLink RX4 40 "StakeWeirsModel$State" "broken" "[I", .fieldLink RX4 43 "StakeWeirsModel$State" "was" "[I", .methodLink RX4 68 yX4_copy, .instanceMethod yX4_copy, .selects RX4 yX4_copy yX4_copy, .initialized RX4, .code yX4_copy cX4_copy 3 none, .methodLink RX4 46 arraycopyName, .native arraycopyName, .static arraycopyName, .initialized "java/lang/System"] ++ wsX40)
def wsX4_isHeld : List Cond := .code yX4_isHeld cX4_isHeld 2 (some .boolean) :: ([.fieldLink RX4 31 "StakeWeirsModel$State" "owes" "[I"] ++ wsX40)
def wsX4_moon : List Cond := .code yX4_moon cX4_moon 2 (some .int) :: ([.fieldLink RX4 52 "StakeWeirsModel$State" "night" "I"] ++ wsX40)
def wsX4_run : List Cond := .code yX4_run cX4_run 1 (some .int) :: ([.fieldLink RX4 3 "StakeWeirsModel$State" "this$0" "LStakeWeirsModel;", .fieldLink RX4 52 "StakeWeirsModel$State" "night" "I", .methodLink RX4 75 yX4_moon, .instanceMethod yX4_moon, .selects RX4 yX4_moon yX4_moon, .initialized RX4, .code yX4_moon cX4_moon 2 (some .int)] ++ wsX40 ++ wsX50)
def wsX4_isInWay : List Cond := .code yX4_isInWay cX4_isInWay 3 (some .boolean) :: ([.fieldLink RX4 28 "StakeWeirsModel$State" "open" "[I", .fieldLink RX4 15 "StakeWeirsModel$State" "stakes" "[I", .methodLink RX4 79 yX4_isHeld, .instanceMethod yX4_isHeld, .selects RX4 yX4_isHeld yX4_isHeld, .initialized RX4, .code yX4_isHeld cX4_isHeld 2 (some .boolean), .fieldLink RX4 31 "StakeWeirsModel$State" "owes" "[I"] ++ wsX40)
def wsX4_runDown : List Cond := .code yX4_runDown cX4_runDown 7 (some .int) :: ([.fieldLink RX4 3 "StakeWeirsModel$State" "this$0" "LStakeWeirsModel;", .fieldLink RX4 28 "StakeWeirsModel$State" "open" "[I", .fieldLink RX4 15 "StakeWeirsModel$State" "stakes" "[I", .fieldLink RX4 19 "StakeWeirsModel$State" "wattle" "[I", .fieldLink RX4 25 "StakeWeirsModel$State" "eels" "[I", .methodLink RX4 92 Lib.Math.min.name, .static Lib.Math.min.name, .initialized "java/lang/Math", .code Lib.Math.min.name Lib.Math.min.code 2 (some .int), .methodLink RX4 83 yX4_run, .instanceMethod yX4_run, .selects RX4 yX4_run yX4_run, .initialized RX4, .code yX4_run cX4_run 1 (some .int), .fieldLink RX4 52 "StakeWeirsModel$State" "night" "I", .methodLink RX4 75 yX4_moon, .instanceMethod yX4_moon, .selects RX4 yX4_moon yX4_moon, .code yX4_moon cX4_moon 2 (some .int), .methodLink RX4 79 yX4_isHeld, .instanceMethod yX4_isHeld, .selects RX4 yX4_isHeld yX4_isHeld, .code yX4_isHeld cX4_isHeld 2 (some .boolean), .fieldLink RX4 31 "StakeWeirsModel$State" "owes" "[I"] ++ wsX40 ++ wsX50)
def wsX4_breaks_r1 : List Cond := [Cond.fieldLink RX4 3 "StakeWeirsModel$State" "this$0" "LStakeWeirsModel;", Cond.fieldLink RX4 37 "StakeWeirsModel$State" "at" "[I", Cond.fieldLink RX4 34 "StakeWeirsModel$State" "wide" "[I", Cond.fieldLink RX4 15 "StakeWeirsModel$State" "stakes" "[I", Cond.fieldLink RX4 19 "StakeWeirsModel$State" "wattle" "[I", Cond.methodLink RX4 102 Lib.Math.max.name, Cond.static Lib.Math.max.name, Cond.initialized "java/lang/Math", Cond.code Lib.Math.max.name Lib.Math.max.code 2 (some .int), Cond.fieldLink RX4 22 "StakeWeirsModel$State" "coins" "[I", Cond.methodLink RX4 92 Lib.Math.min.name, Cond.static Lib.Math.min.name, Cond.code Lib.Math.min.name Lib.Math.min.code 2 (some .int), Cond.fieldLink RX4 62 "StakeWeirsModel$State" "fines" "I", Cond.fieldLink RX4 40 "StakeWeirsModel$State" "broken" "[I", Cond.methodLink RX4 98 yX4_isInWay, Cond.instanceMethod yX4_isInWay, Cond.selects RX4 yX4_isInWay yX4_isInWay, Cond.initialized RX4, Cond.code yX4_isInWay cX4_isInWay 3 (some .boolean), Cond.fieldLink RX4 28 "StakeWeirsModel$State" "open" "[I", Cond.methodLink RX4 79 yX4_isHeld, Cond.instanceMethod yX4_isHeld, Cond.selects RX4 yX4_isHeld yX4_isHeld]
def wsX4_breaks_r2 : List Cond := [Cond.code yX4_isHeld cX4_isHeld 2 (some .boolean), Cond.fieldLink RX4 31 "StakeWeirsModel$State" "owes" "[I"]
def wsX4_breaks : List Cond := .code yX4_breaks cX4_breaks 5 (some .boolean) :: ((wsX4_breaks_r1 ++ wsX4_breaks_r2) ++ wsX40 ++ wsX50)
def wsX4_goUp_r1 : List Cond := [Cond.fieldLink RX4 37 "StakeWeirsModel$State" "at" "[I", Cond.methodLink RX4 105 yX4_breaks, Cond.instanceMethod yX4_breaks, Cond.selects RX4 yX4_breaks yX4_breaks, Cond.initialized RX4, Cond.code yX4_breaks cX4_breaks 5 (some .boolean), Cond.fieldLink RX4 3 "StakeWeirsModel$State" "this$0" "LStakeWeirsModel;", Cond.fieldLink RX4 34 "StakeWeirsModel$State" "wide" "[I", Cond.fieldLink RX4 15 "StakeWeirsModel$State" "stakes" "[I", Cond.fieldLink RX4 19 "StakeWeirsModel$State" "wattle" "[I", Cond.methodLink RX4 102 Lib.Math.max.name, Cond.static Lib.Math.max.name, Cond.initialized "java/lang/Math", Cond.code Lib.Math.max.name Lib.Math.max.code 2 (some .int), Cond.fieldLink RX4 22 "StakeWeirsModel$State" "coins" "[I", Cond.methodLink RX4 92 Lib.Math.min.name, Cond.static Lib.Math.min.name, Cond.code Lib.Math.min.name Lib.Math.min.code 2 (some .int), Cond.fieldLink RX4 62 "StakeWeirsModel$State" "fines" "I", Cond.fieldLink RX4 40 "StakeWeirsModel$State" "broken" "[I", Cond.methodLink RX4 98 yX4_isInWay, Cond.instanceMethod yX4_isInWay, Cond.selects RX4 yX4_isInWay yX4_isInWay, Cond.code yX4_isInWay cX4_isInWay 3 (some .boolean)]
def wsX4_goUp_r2 : List Cond := [Cond.fieldLink RX4 28 "StakeWeirsModel$State" "open" "[I", Cond.methodLink RX4 79 yX4_isHeld, Cond.instanceMethod yX4_isHeld, Cond.selects RX4 yX4_isHeld yX4_isHeld, Cond.code yX4_isHeld cX4_isHeld 2 (some .boolean), Cond.fieldLink RX4 31 "StakeWeirsModel$State" "owes" "[I"]
def wsX4_goUp : List Cond := .code yX4_goUp cX4_goUp 3 none :: ((wsX4_goUp_r1 ++ wsX4_goUp_r2) ++ wsX40 ++ wsX50)
def wsX4_leave : List Cond := .code yX4_leave cX4_leave 3 none :: ([.fieldLink RX4 56 "StakeWeirsModel$State" "barges" "I", .fieldLink RX4 37 "StakeWeirsModel$State" "at" "[I", .fieldLink RX4 59 "StakeWeirsModel$State" "arrived" "I", .fieldLink RX4 34 "StakeWeirsModel$State" "wide" "[I", .fieldLink RX4 40 "StakeWeirsModel$State" "broken" "[I", .fieldLink RX4 43 "StakeWeirsModel$State" "was" "[I"] ++ wsX40)
def wsX4_payRent : List Cond := .code yX4_payRent cX4_payRent 2 none :: ([.fieldLink RX4 22 "StakeWeirsModel$State" "coins" "[I", .fieldLink RX4 3 "StakeWeirsModel$State" "this$0" "LStakeWeirsModel;", .fieldLink RX4 65 "StakeWeirsModel$State" "rents" "I", .fieldLink RX4 31 "StakeWeirsModel$State" "owes" "[I", .fieldLink RX4 25 "StakeWeirsModel$State" "eels" "[I"] ++ wsX40 ++ wsX50)
def wsX4_pass_r1 : List Cond := [Cond.fieldLink RX4 56 "StakeWeirsModel$State" "barges" "I", Cond.fieldLink RX4 3 "StakeWeirsModel$State" "this$0" "LStakeWeirsModel;", Cond.fieldLink RX4 19 "StakeWeirsModel$State" "wattle" "[I", Cond.methodLink RX4 102 Lib.Math.max.name, Cond.static Lib.Math.max.name, Cond.initialized "java/lang/Math", Cond.code Lib.Math.max.name Lib.Math.max.code 2 (some .int), Cond.fieldLink RX4 52 "StakeWeirsModel$State" "night" "I", Cond.methodLink RX4 111 yX4_runDown, Cond.instanceMethod yX4_runDown, Cond.selects RX4 yX4_runDown yX4_runDown, Cond.initialized RX4, Cond.code yX4_runDown cX4_runDown 7 (some .int), Cond.fieldLink RX4 28 "StakeWeirsModel$State" "open" "[I", Cond.fieldLink RX4 15 "StakeWeirsModel$State" "stakes" "[I", Cond.fieldLink RX4 25 "StakeWeirsModel$State" "eels" "[I", Cond.methodLink RX4 92 Lib.Math.min.name, Cond.static Lib.Math.min.name, Cond.code Lib.Math.min.name Lib.Math.min.code 2 (some .int), Cond.methodLink RX4 83 yX4_run, Cond.instanceMethod yX4_run, Cond.selects RX4 yX4_run yX4_run, Cond.code yX4_run cX4_run 1 (some .int), Cond.methodLink RX4 75 yX4_moon]
def wsX4_pass_r2 : List Cond := [Cond.instanceMethod yX4_moon, Cond.selects RX4 yX4_moon yX4_moon, Cond.code yX4_moon cX4_moon 2 (some .int), Cond.methodLink RX4 79 yX4_isHeld, Cond.instanceMethod yX4_isHeld, Cond.selects RX4 yX4_isHeld yX4_isHeld, Cond.code yX4_isHeld cX4_isHeld 2 (some .boolean), Cond.fieldLink RX4 31 "StakeWeirsModel$State" "owes" "[I", Cond.methodLink RX4 115 yX4_goUp, Cond.instanceMethod yX4_goUp, Cond.selects RX4 yX4_goUp yX4_goUp, Cond.code yX4_goUp cX4_goUp 3 none, Cond.fieldLink RX4 37 "StakeWeirsModel$State" "at" "[I", Cond.methodLink RX4 105 yX4_breaks, Cond.instanceMethod yX4_breaks, Cond.selects RX4 yX4_breaks yX4_breaks, Cond.code yX4_breaks cX4_breaks 5 (some .boolean), Cond.fieldLink RX4 34 "StakeWeirsModel$State" "wide" "[I", Cond.fieldLink RX4 22 "StakeWeirsModel$State" "coins" "[I", Cond.fieldLink RX4 62 "StakeWeirsModel$State" "fines" "I", Cond.fieldLink RX4 40 "StakeWeirsModel$State" "broken" "[I", Cond.methodLink RX4 98 yX4_isInWay, Cond.instanceMethod yX4_isInWay, Cond.selects RX4 yX4_isInWay yX4_isInWay]
def wsX4_pass_r3 : List Cond := [Cond.code yX4_isInWay cX4_isInWay 3 (some .boolean), Cond.methodLink RX4 119 yX4_leave, Cond.instanceMethod yX4_leave, Cond.selects RX4 yX4_leave yX4_leave, Cond.code yX4_leave cX4_leave 3 none, Cond.fieldLink RX4 59 "StakeWeirsModel$State" "arrived" "I", Cond.fieldLink RX4 43 "StakeWeirsModel$State" "was" "[I", Cond.methodLink RX4 122 yX4_payRent, Cond.instanceMethod yX4_payRent, Cond.selects RX4 yX4_payRent yX4_payRent, Cond.code yX4_payRent cX4_payRent 2 none, Cond.fieldLink RX4 65 "StakeWeirsModel$State" "rents" "I"]
def wsX4_pass : List Cond := .code yX4_pass cX4_pass 2 none :: ((wsX4_pass_r1 ++ (wsX4_pass_r2 ++ wsX4_pass_r3)) ++ wsX40 ++ wsX50)
def wsX4_pass__r1 : List Cond := [Cond.methodLink RX4 125 yX4_pass, Cond.instanceMethod yX4_pass, Cond.selects RX4 yX4_pass yX4_pass, Cond.initialized RX4, Cond.code yX4_pass cX4_pass 2 none, Cond.fieldLink RX4 56 "StakeWeirsModel$State" "barges" "I", Cond.fieldLink RX4 3 "StakeWeirsModel$State" "this$0" "LStakeWeirsModel;", Cond.fieldLink RX4 19 "StakeWeirsModel$State" "wattle" "[I", Cond.methodLink RX4 102 Lib.Math.max.name, Cond.static Lib.Math.max.name, Cond.initialized "java/lang/Math", Cond.code Lib.Math.max.name Lib.Math.max.code 2 (some .int), Cond.fieldLink RX4 52 "StakeWeirsModel$State" "night" "I", Cond.methodLink RX4 111 yX4_runDown, Cond.instanceMethod yX4_runDown, Cond.selects RX4 yX4_runDown yX4_runDown, Cond.code yX4_runDown cX4_runDown 7 (some .int), Cond.fieldLink RX4 28 "StakeWeirsModel$State" "open" "[I", Cond.fieldLink RX4 15 "StakeWeirsModel$State" "stakes" "[I", Cond.fieldLink RX4 25 "StakeWeirsModel$State" "eels" "[I", Cond.methodLink RX4 92 Lib.Math.min.name, Cond.static Lib.Math.min.name, Cond.code Lib.Math.min.name Lib.Math.min.code 2 (some .int), Cond.methodLink RX4 83 yX4_run]
def wsX4_pass__r2 : List Cond := [Cond.instanceMethod yX4_run, Cond.selects RX4 yX4_run yX4_run, Cond.code yX4_run cX4_run 1 (some .int), Cond.methodLink RX4 75 yX4_moon, Cond.instanceMethod yX4_moon, Cond.selects RX4 yX4_moon yX4_moon, Cond.code yX4_moon cX4_moon 2 (some .int), Cond.methodLink RX4 79 yX4_isHeld, Cond.instanceMethod yX4_isHeld, Cond.selects RX4 yX4_isHeld yX4_isHeld, Cond.code yX4_isHeld cX4_isHeld 2 (some .boolean), Cond.fieldLink RX4 31 "StakeWeirsModel$State" "owes" "[I", Cond.methodLink RX4 115 yX4_goUp, Cond.instanceMethod yX4_goUp, Cond.selects RX4 yX4_goUp yX4_goUp, Cond.code yX4_goUp cX4_goUp 3 none, Cond.fieldLink RX4 37 "StakeWeirsModel$State" "at" "[I", Cond.methodLink RX4 105 yX4_breaks, Cond.instanceMethod yX4_breaks, Cond.selects RX4 yX4_breaks yX4_breaks, Cond.code yX4_breaks cX4_breaks 5 (some .boolean), Cond.fieldLink RX4 34 "StakeWeirsModel$State" "wide" "[I", Cond.fieldLink RX4 22 "StakeWeirsModel$State" "coins" "[I", Cond.fieldLink RX4 62 "StakeWeirsModel$State" "fines" "I"]
def wsX4_pass__r3 : List Cond := [Cond.fieldLink RX4 40 "StakeWeirsModel$State" "broken" "[I", Cond.methodLink RX4 98 yX4_isInWay, Cond.instanceMethod yX4_isInWay, Cond.selects RX4 yX4_isInWay yX4_isInWay, Cond.code yX4_isInWay cX4_isInWay 3 (some .boolean), Cond.methodLink RX4 119 yX4_leave, Cond.instanceMethod yX4_leave, Cond.selects RX4 yX4_leave yX4_leave, Cond.code yX4_leave cX4_leave 3 none, Cond.fieldLink RX4 59 "StakeWeirsModel$State" "arrived" "I", Cond.fieldLink RX4 43 "StakeWeirsModel$State" "was" "[I", Cond.methodLink RX4 122 yX4_payRent, Cond.instanceMethod yX4_payRent, Cond.selects RX4 yX4_payRent yX4_payRent, Cond.code yX4_payRent cX4_payRent 2 none, Cond.fieldLink RX4 65 "StakeWeirsModel$State" "rents" "I"]
def wsX4_pass_ : List Cond := .code yX4_pass_ cX4_pass_ 3 none :: ((wsX4_pass__r1 ++ (wsX4_pass__r2 ++ wsX4_pass__r3)) ++ wsX40 ++ wsX50)
def wsX4_held : List Cond := .code yX4_held cX4_held 3 (some .int) :: ([.fieldLink RX4 3 "StakeWeirsModel$State" "this$0" "LStakeWeirsModel;", .methodLink RX4 79 yX4_isHeld, .instanceMethod yX4_isHeld, .selects RX4 yX4_isHeld yX4_isHeld, .initialized RX4, .code yX4_isHeld cX4_isHeld 2 (some .boolean), .fieldLink RX4 31 "StakeWeirsModel$State" "owes" "[I"] ++ wsX40 ++ wsX50)
def wsX4_allEels : List Cond := .code yX4_allEels cX4_allEels 3 (some .int) :: ([.fieldLink RX4 3 "StakeWeirsModel$State" "this$0" "LStakeWeirsModel;", .fieldLink RX4 25 "StakeWeirsModel$State" "eels" "[I"] ++ wsX40 ++ wsX50)
def wsX4_counted_r1 : List Cond := [Cond.arrayClass .int, Cond.fieldLink RX4 52 "StakeWeirsModel$State" "night" "I", Cond.fieldLink RX4 3 "StakeWeirsModel$State" "this$0" "LStakeWeirsModel;", Cond.fieldLink RX4 56 "StakeWeirsModel$State" "barges" "I", Cond.fieldLink RX4 59 "StakeWeirsModel$State" "arrived" "I", Cond.fieldLink RX4 62 "StakeWeirsModel$State" "fines" "I", Cond.fieldLink RX4 65 "StakeWeirsModel$State" "rents" "I", Cond.methodLink RX4 75 yX4_moon, Cond.instanceMethod yX4_moon, Cond.selects RX4 yX4_moon yX4_moon, Cond.initialized RX4, Cond.code yX4_moon cX4_moon 2 (some .int), Cond.methodLink RX4 83 yX4_run, Cond.instanceMethod yX4_run, Cond.selects RX4 yX4_run yX4_run, Cond.code yX4_run cX4_run 1 (some .int), Cond.methodLink RX4 128 yX4_held, Cond.instanceMethod yX4_held, Cond.selects RX4 yX4_held yX4_held, Cond.code yX4_held cX4_held 3 (some .int), Cond.methodLink RX4 79 yX4_isHeld, Cond.instanceMethod yX4_isHeld, Cond.selects RX4 yX4_isHeld yX4_isHeld, Cond.code yX4_isHeld cX4_isHeld 2 (some .boolean)]
def wsX4_counted_r2 : List Cond := [Cond.fieldLink RX4 31 "StakeWeirsModel$State" "owes" "[I", Cond.methodLink RX4 131 yX4_allEels, Cond.instanceMethod yX4_allEels, Cond.selects RX4 yX4_allEels yX4_allEels, Cond.code yX4_allEels cX4_allEels 3 (some .int), Cond.fieldLink RX4 25 "StakeWeirsModel$State" "eels" "[I"]
def wsX4_counted : List Cond := .code yX4_counted cX4_counted 3 (some .int) :: ((wsX4_counted_r1 ++ wsX4_counted_r2) ++ wsX40 ++ wsX50)
def wsX5_init_r1 : List Cond := [Cond.methodLink RX5 1 objectInit, Cond.instanceMethod objectInit, Cond.code objectInit ⟨#[0xb1]⟩ 1 none, Cond.arrayClass .int, Cond.fieldLink RX5 7 "StakeWeirsModel" "table" "[I", Cond.fieldLink RX5 13 "StakeWeirsModel" "place" "[I", Cond.fieldLink RX5 16 "StakeWeirsModel" "rent" "[I", Cond.classLink RX5 19 RX4, Cond.instantiable RX4 16, Cond.initialized RX4, Cond.fieldLink RX5 24 "StakeWeirsModel" "s" "LStakeWeirsModel$State;", Cond.fieldLink RX5 28 "StakeWeirsModel" "ahead" "LStakeWeirsModel$State;", Cond.instanceMethod yX4_init, Cond.code yX4_init cX4_init 2 none, Cond.fieldLink RX4 3 "StakeWeirsModel$State" "this$0" "LStakeWeirsModel;", Cond.methodLink RX4 9 objectInit, Cond.fieldLink RX4 15 "StakeWeirsModel$State" "stakes" "[I", Cond.fieldLink RX4 19 "StakeWeirsModel$State" "wattle" "[I", Cond.fieldLink RX4 22 "StakeWeirsModel$State" "coins" "[I", Cond.fieldLink RX4 25 "StakeWeirsModel$State" "eels" "[I", Cond.fieldLink RX4 28 "StakeWeirsModel$State" "open" "[I", Cond.fieldLink RX4 31 "StakeWeirsModel$State" "owes" "[I", Cond.fieldLink RX4 34 "StakeWeirsModel$State" "wide" "[I", Cond.fieldLink RX4 37 "StakeWeirsModel$State" "at" "[I"]
def wsX5_init_r2 : List Cond := [Cond.fieldLink RX4 40 "StakeWeirsModel$State" "broken" "[I", Cond.fieldLink RX4 43 "StakeWeirsModel$State" "was" "[I"]
def wsX5_init : List Cond := .code yX5_init cX5_init 1 none :: ((wsX5_init_r1 ++ wsX5_init_r2) ++ wsX50 ++ wsX40)
def wsX5_thrown : List Cond := .code yX5_thrown cX5_thrown 1 (some .int) :: ([.fieldLink RX5 31 "StakeWeirsModel" "thrown" "I"] ++ wsX50)
def wsX5_no : List Cond := .code yX5_no cX5_no 2 (some .int) :: ([.fieldLink RX5 31 "StakeWeirsModel" "thrown" "I"] ++ wsX50)
def wsX5_isIn : List Cond := .code yX5_isIn cX5_isIn 3 (some .boolean) :: ([])
def wsX5_isWeir : List Cond := .code yX5_isWeir cX5_isWeir 2 (some .boolean) :: ([.fieldLink RX5 35 "StakeWeirsModel" "weirs" "I", .methodLink RX5 38 yX5_isIn, .static yX5_isIn, .initialized RX5, .code yX5_isIn cX5_isIn 3 (some .boolean)] ++ wsX50)
def wsX5_isBarge : List Cond := .code yX5_isBarge cX5_isBarge 2 (some .boolean) :: ([.fieldLink RX5 24 "StakeWeirsModel" "s" "LStakeWeirsModel$State;", .methodLink RX5 38 yX5_isIn, .static yX5_isIn, .initialized RX5, .code yX5_isIn cX5_isIn 3 (some .boolean)] ++ wsX50 ++ wsX40)
def wsX5_weir : List Cond := .code yX5_weir cX5_weir 4 (some .int) :: ([.fieldLink RX5 31 "StakeWeirsModel" "thrown" "I", .fieldLink RX5 35 "StakeWeirsModel" "weirs" "I", .fieldLink RX5 13 "StakeWeirsModel" "place" "[I", .fieldLink RX5 16 "StakeWeirsModel" "rent" "[I", .fieldLink RX5 24 "StakeWeirsModel" "s" "LStakeWeirsModel$State;", .methodLink RX5 38 yX5_isIn, .static yX5_isIn, .initialized RX5, .code yX5_isIn cX5_isIn 3 (some .boolean), .methodLink RX5 45 yX5_no, .instanceMethod yX5_no, .selects RX5 yX5_no yX5_no, .code yX5_no cX5_no 2 (some .int)] ++ wsX50 ++ wsX40)
def wsX5_gate : List Cond := .code yX5_gate cX5_gate 2 (some .boolean) :: ([.fieldLink RX5 24 "StakeWeirsModel" "s" "LStakeWeirsModel$State;", .fieldLink RX5 31 "StakeWeirsModel" "thrown" "I", .methodLink RX5 58 yX5_isWeir, .instanceMethod yX5_isWeir, .selects RX5 yX5_isWeir yX5_isWeir, .initialized RX5, .code yX5_isWeir cX5_isWeir 2 (some .boolean), .fieldLink RX5 35 "StakeWeirsModel" "weirs" "I", .methodLink RX5 38 yX5_isIn, .static yX5_isIn, .code yX5_isIn cX5_isIn 3 (some .boolean), .methodLink RX5 62 yX4_isHeld, .instanceMethod yX4_isHeld, .selects RX4 yX4_isHeld yX4_isHeld, .initialized RX4, .code yX4_isHeld cX4_isHeld 2 (some .boolean), .fieldLink RX4 31 "StakeWeirsModel$State" "owes" "[I"] ++ wsX50 ++ wsX40)
def wsX5_mend : List Cond := .code yX5_mend cX5_mend 4 (some .int) :: ([.fieldLink RX5 31 "StakeWeirsModel" "thrown" "I", .fieldLink RX5 24 "StakeWeirsModel" "s" "LStakeWeirsModel$State;", .methodLink RX5 58 yX5_isWeir, .instanceMethod yX5_isWeir, .selects RX5 yX5_isWeir yX5_isWeir, .initialized RX5, .code yX5_isWeir cX5_isWeir 2 (some .boolean), .fieldLink RX5 35 "StakeWeirsModel" "weirs" "I", .methodLink RX5 38 yX5_isIn, .static yX5_isIn, .code yX5_isIn cX5_isIn 3 (some .boolean), .methodLink RX5 45 yX5_no, .instanceMethod yX5_no, .selects RX5 yX5_no yX5_no, .code yX5_no cX5_no 2 (some .int), .methodLink RX5 62 yX4_isHeld, .instanceMethod yX4_isHeld, .selects RX4 yX4_isHeld yX4_isHeld, .initialized RX4, .code yX4_isHeld cX4_isHeld 2 (some .boolean), .fieldLink RX4 31 "StakeWeirsModel$State" "owes" "[I"] ++ wsX50 ++ wsX40)
def wsX5_drive : List Cond := .code yX5_drive cX5_drive 3 (some .int) :: ([.fieldLink RX5 31 "StakeWeirsModel" "thrown" "I", .fieldLink RX5 24 "StakeWeirsModel" "s" "LStakeWeirsModel$State;", .methodLink RX5 58 yX5_isWeir, .instanceMethod yX5_isWeir, .selects RX5 yX5_isWeir yX5_isWeir, .initialized RX5, .code yX5_isWeir cX5_isWeir 2 (some .boolean), .fieldLink RX5 35 "StakeWeirsModel" "weirs" "I", .methodLink RX5 38 yX5_isIn, .static yX5_isIn, .code yX5_isIn cX5_isIn 3 (some .boolean), .methodLink RX5 45 yX5_no, .instanceMethod yX5_no, .selects RX5 yX5_no yX5_no, .code yX5_no cX5_no 2 (some .int), .methodLink RX5 62 yX4_isHeld, .instanceMethod yX4_isHeld, .selects RX4 yX4_isHeld yX4_isHeld, .initialized RX4, .code yX4_isHeld cX4_isHeld 2 (some .boolean), .fieldLink RX4 31 "StakeWeirsModel$State" "owes" "[I"] ++ wsX50 ++ wsX40)
def wsX5_sell_r1 : List Cond := [Cond.fieldLink RX5 31 "StakeWeirsModel" "thrown" "I", Cond.fieldLink RX5 24 "StakeWeirsModel" "s" "LStakeWeirsModel$State;", Cond.methodLink RX5 58 yX5_isWeir, Cond.instanceMethod yX5_isWeir, Cond.selects RX5 yX5_isWeir yX5_isWeir, Cond.initialized RX5, Cond.code yX5_isWeir cX5_isWeir 2 (some .boolean), Cond.fieldLink RX5 35 "StakeWeirsModel" "weirs" "I", Cond.methodLink RX5 38 yX5_isIn, Cond.static yX5_isIn, Cond.code yX5_isIn cX5_isIn 3 (some .boolean), Cond.methodLink RX5 45 yX5_no, Cond.instanceMethod yX5_no, Cond.selects RX5 yX5_no yX5_no, Cond.code yX5_no cX5_no 2 (some .int), Cond.methodLink RX5 62 yX4_isHeld, Cond.instanceMethod yX4_isHeld, Cond.selects RX4 yX4_isHeld yX4_isHeld, Cond.initialized RX4, Cond.code yX4_isHeld cX4_isHeld 2 (some .boolean), Cond.fieldLink RX4 31 "StakeWeirsModel$State" "owes" "[I", Cond.methodLink RX5 71 yX4_moon, Cond.instanceMethod yX4_moon, Cond.selects RX4 yX4_moon yX4_moon]
def wsX5_sell_r2 : List Cond := [Cond.code yX4_moon cX4_moon 2 (some .int), Cond.fieldLink RX4 52 "StakeWeirsModel$State" "night" "I"]
def wsX5_sell : List Cond := .code yX5_sell cX5_sell 4 (some .int) :: ((wsX5_sell_r1 ++ wsX5_sell_r2) ++ wsX50 ++ wsX40)
def wsX5_setRun : List Cond := .code yX5_setRun cX5_setRun 4 (some .int) :: ([.fieldLink RX5 31 "StakeWeirsModel" "thrown" "I", .fieldLink RX5 7 "StakeWeirsModel" "table" "[I", .methodLink RX5 38 yX5_isIn, .static yX5_isIn, .initialized RX5, .code yX5_isIn cX5_isIn 3 (some .boolean), .methodLink RX5 45 yX5_no, .instanceMethod yX5_no, .selects RX5 yX5_no yX5_no, .code yX5_no cX5_no 2 (some .int)] ++ wsX50)
def wsX5_barge : List Cond := .code yX5_barge cX5_barge 2 (some .int) :: ([.fieldLink RX5 31 "StakeWeirsModel" "thrown" "I", .fieldLink RX5 24 "StakeWeirsModel" "s" "LStakeWeirsModel$State;", .methodLink RX5 38 yX5_isIn, .static yX5_isIn, .initialized RX5, .code yX5_isIn cX5_isIn 3 (some .boolean), .methodLink RX5 45 yX5_no, .instanceMethod yX5_no, .selects RX5 yX5_no yX5_no, .code yX5_no cX5_no 2 (some .int)] ++ wsX50 ++ wsX40)
def wsX5_weirTold : List Cond := .code yX5_weirTold cX5_weirTold 4 (some .int) :: ([.arrayClass .int, .fieldLink RX5 13 "StakeWeirsModel" "place" "[I", .fieldLink RX5 24 "StakeWeirsModel" "s" "LStakeWeirsModel$State;", .fieldLink RX5 16 "StakeWeirsModel" "rent" "[I"] ++ wsX50 ++ wsX40)
def wsX5_about : List Cond := .code yX5_about cX5_about 3 (some .int) :: ([.fieldLink RX5 31 "StakeWeirsModel" "thrown" "I", .methodLink RX5 58 yX5_isWeir, .instanceMethod yX5_isWeir, .selects RX5 yX5_isWeir yX5_isWeir, .initialized RX5, .code yX5_isWeir cX5_isWeir 2 (some .boolean), .fieldLink RX5 35 "StakeWeirsModel" "weirs" "I", .methodLink RX5 38 yX5_isIn, .static yX5_isIn, .code yX5_isIn cX5_isIn 3 (some .boolean), .methodLink RX5 87 yX5_weirTold, .instanceMethod yX5_weirTold, .selects RX5 yX5_weirTold yX5_weirTold, .code yX5_weirTold cX5_weirTold 4 (some .int), .arrayClass .int, .fieldLink RX5 13 "StakeWeirsModel" "place" "[I", .fieldLink RX5 24 "StakeWeirsModel" "s" "LStakeWeirsModel$State;", .fieldLink RX5 16 "StakeWeirsModel" "rent" "[I", .methodLink RX5 45 yX5_no, .instanceMethod yX5_no, .selects RX5 yX5_no yX5_no, .code yX5_no cX5_no 2 (some .int)] ++ wsX50 ++ wsX40)
def wsX5_nextFor : List Cond := .code yX5_nextFor cX5_nextFor 4 (some .int) :: ([.fieldLink RX5 24 "StakeWeirsModel" "s" "LStakeWeirsModel$State;", .fieldLink RX5 35 "StakeWeirsModel" "weirs" "I", .fieldLink RX5 13 "StakeWeirsModel" "place" "[I", .methodLink RX5 91 yX4_isInWay, .instanceMethod yX4_isInWay, .selects RX4 yX4_isInWay yX4_isInWay, .initialized RX4, .code yX4_isInWay cX4_isInWay 3 (some .boolean), .fieldLink RX4 28 "StakeWeirsModel$State" "open" "[I", .fieldLink RX4 15 "StakeWeirsModel$State" "stakes" "[I", .methodLink RX4 79 yX4_isHeld, .instanceMethod yX4_isHeld, .selects RX4 yX4_isHeld yX4_isHeld, .code yX4_isHeld cX4_isHeld 2 (some .boolean), .fieldLink RX4 31 "StakeWeirsModel$State" "owes" "[I"] ++ wsX50 ++ wsX40)
def wsX5_bargeTold : List Cond := .code yX5_bargeTold cX5_bargeTold 3 (some .int) :: ([.fieldLink RX5 24 "StakeWeirsModel" "s" "LStakeWeirsModel$State;", .methodLink RX5 95 yX5_nextFor, .instanceMethod yX5_nextFor, .selects RX5 yX5_nextFor yX5_nextFor, .initialized RX5, .code yX5_nextFor cX5_nextFor 4 (some .int), .fieldLink RX5 35 "StakeWeirsModel" "weirs" "I", .fieldLink RX5 13 "StakeWeirsModel" "place" "[I", .methodLink RX5 91 yX4_isInWay, .instanceMethod yX4_isInWay, .selects RX4 yX4_isInWay yX4_isInWay, .initialized RX4, .code yX4_isInWay cX4_isInWay 3 (some .boolean), .fieldLink RX4 28 "StakeWeirsModel$State" "open" "[I", .fieldLink RX4 15 "StakeWeirsModel$State" "stakes" "[I", .methodLink RX4 79 yX4_isHeld, .instanceMethod yX4_isHeld, .selects RX4 yX4_isHeld yX4_isHeld, .code yX4_isHeld cX4_isHeld 2 (some .boolean), .fieldLink RX4 31 "StakeWeirsModel$State" "owes" "[I"] ++ wsX50 ++ wsX40)
def wsX5_told_r1 : List Cond := [Cond.fieldLink RX5 31 "StakeWeirsModel" "thrown" "I", Cond.methodLink RX5 98 yX5_isBarge, Cond.instanceMethod yX5_isBarge, Cond.selects RX5 yX5_isBarge yX5_isBarge, Cond.initialized RX5, Cond.code yX5_isBarge cX5_isBarge 2 (some .boolean), Cond.fieldLink RX5 24 "StakeWeirsModel" "s" "LStakeWeirsModel$State;", Cond.methodLink RX5 38 yX5_isIn, Cond.static yX5_isIn, Cond.code yX5_isIn cX5_isIn 3 (some .boolean), Cond.methodLink RX5 101 yX5_bargeTold, Cond.instanceMethod yX5_bargeTold, Cond.selects RX5 yX5_bargeTold yX5_bargeTold, Cond.code yX5_bargeTold cX5_bargeTold 3 (some .int), Cond.methodLink RX5 95 yX5_nextFor, Cond.instanceMethod yX5_nextFor, Cond.selects RX5 yX5_nextFor yX5_nextFor, Cond.code yX5_nextFor cX5_nextFor 4 (some .int), Cond.fieldLink RX5 35 "StakeWeirsModel" "weirs" "I", Cond.fieldLink RX5 13 "StakeWeirsModel" "place" "[I", Cond.methodLink RX5 91 yX4_isInWay, Cond.instanceMethod yX4_isInWay, Cond.selects RX4 yX4_isInWay yX4_isInWay, Cond.initialized RX4]
def wsX5_told_r2 : List Cond := [Cond.code yX4_isInWay cX4_isInWay 3 (some .boolean), Cond.fieldLink RX4 28 "StakeWeirsModel$State" "open" "[I", Cond.fieldLink RX4 15 "StakeWeirsModel$State" "stakes" "[I", Cond.methodLink RX4 79 yX4_isHeld, Cond.instanceMethod yX4_isHeld, Cond.selects RX4 yX4_isHeld yX4_isHeld, Cond.code yX4_isHeld cX4_isHeld 2 (some .boolean), Cond.fieldLink RX4 31 "StakeWeirsModel$State" "owes" "[I", Cond.methodLink RX5 45 yX5_no, Cond.instanceMethod yX5_no, Cond.selects RX5 yX5_no yX5_no, Cond.code yX5_no cX5_no 2 (some .int)]
def wsX5_told : List Cond := .code yX5_told cX5_told 3 (some .int) :: ((wsX5_told_r1 ++ wsX5_told_r2) ++ wsX50 ++ wsX40)
def wsX5_count_r1 : List Cond := [Cond.fieldLink RX5 31 "StakeWeirsModel" "thrown" "I", Cond.fieldLink RX5 24 "StakeWeirsModel" "s" "LStakeWeirsModel$State;", Cond.methodLink RX5 38 yX5_isIn, Cond.static yX5_isIn, Cond.initialized RX5, Cond.code yX5_isIn cX5_isIn 3 (some .boolean), Cond.methodLink RX5 104 yX4_counted, Cond.instanceMethod yX4_counted, Cond.selects RX4 yX4_counted yX4_counted, Cond.initialized RX4, Cond.code yX4_counted cX4_counted 3 (some .int), Cond.arrayClass .int, Cond.fieldLink RX4 52 "StakeWeirsModel$State" "night" "I", Cond.fieldLink RX4 3 "StakeWeirsModel$State" "this$0" "LStakeWeirsModel;", Cond.fieldLink RX4 56 "StakeWeirsModel$State" "barges" "I", Cond.fieldLink RX4 59 "StakeWeirsModel$State" "arrived" "I", Cond.fieldLink RX4 62 "StakeWeirsModel$State" "fines" "I", Cond.fieldLink RX4 65 "StakeWeirsModel$State" "rents" "I", Cond.methodLink RX4 75 yX4_moon, Cond.instanceMethod yX4_moon, Cond.selects RX4 yX4_moon yX4_moon, Cond.code yX4_moon cX4_moon 2 (some .int), Cond.methodLink RX4 83 yX4_run, Cond.instanceMethod yX4_run]
def wsX5_count_r2 : List Cond := [Cond.selects RX4 yX4_run yX4_run, Cond.code yX4_run cX4_run 1 (some .int), Cond.methodLink RX4 128 yX4_held, Cond.instanceMethod yX4_held, Cond.selects RX4 yX4_held yX4_held, Cond.code yX4_held cX4_held 3 (some .int), Cond.methodLink RX4 79 yX4_isHeld, Cond.instanceMethod yX4_isHeld, Cond.selects RX4 yX4_isHeld yX4_isHeld, Cond.code yX4_isHeld cX4_isHeld 2 (some .boolean), Cond.fieldLink RX4 31 "StakeWeirsModel$State" "owes" "[I", Cond.methodLink RX4 131 yX4_allEels, Cond.instanceMethod yX4_allEels, Cond.selects RX4 yX4_allEels yX4_allEels, Cond.code yX4_allEels cX4_allEels 3 (some .int), Cond.fieldLink RX4 25 "StakeWeirsModel$State" "eels" "[I", Cond.methodLink RX5 45 yX5_no, Cond.instanceMethod yX5_no, Cond.selects RX5 yX5_no yX5_no, Cond.code yX5_no cX5_no 2 (some .int)]
def wsX5_count : List Cond := .code yX5_count cX5_count 2 (some .int) :: ((wsX5_count_r1 ++ wsX5_count_r2) ++ wsX50 ++ wsX40)
def wsX5_hinders : List Cond := .code yX5_hinders cX5_hinders 4 (some .int) :: ([.fieldLink RX5 31 "StakeWeirsModel" "thrown" "I", .fieldLink RX5 35 "StakeWeirsModel" "weirs" "I", .fieldLink RX5 24 "StakeWeirsModel" "s" "LStakeWeirsModel$State;", .methodLink RX5 38 yX5_isIn, .static yX5_isIn, .initialized RX5, .code yX5_isIn cX5_isIn 3 (some .boolean), .methodLink RX5 45 yX5_no, .instanceMethod yX5_no, .selects RX5 yX5_no yX5_no, .code yX5_no cX5_no 2 (some .int), .methodLink RX5 91 yX4_isInWay, .instanceMethod yX4_isInWay, .selects RX4 yX4_isInWay yX4_isInWay, .initialized RX4, .code yX4_isInWay cX4_isInWay 3 (some .boolean), .fieldLink RX4 28 "StakeWeirsModel$State" "open" "[I", .fieldLink RX4 15 "StakeWeirsModel$State" "stakes" "[I", .methodLink RX4 79 yX4_isHeld, .instanceMethod yX4_isHeld, .selects RX4 yX4_isHeld yX4_isHeld, .code yX4_isHeld cX4_isHeld 2 (some .boolean), .fieldLink RX4 31 "StakeWeirsModel$State" "owes" "[I"] ++ wsX50 ++ wsX40)
def wsX5_richest : List Cond := .code yX5_richest cX5_richest 3 (some .int) :: ([.fieldLink RX5 31 "StakeWeirsModel" "thrown" "I", .fieldLink RX5 35 "StakeWeirsModel" "weirs" "I", .fieldLink RX5 24 "StakeWeirsModel" "s" "LStakeWeirsModel$State;", .methodLink RX5 62 yX4_isHeld, .instanceMethod yX4_isHeld, .selects RX4 yX4_isHeld yX4_isHeld, .initialized RX4, .code yX4_isHeld cX4_isHeld 2 (some .boolean), .fieldLink RX4 31 "StakeWeirsModel$State" "owes" "[I"] ++ wsX50 ++ wsX40)
def wsX5_pass_r1 : List Cond := [Cond.fieldLink RX5 31 "StakeWeirsModel" "thrown" "I", Cond.fieldLink RX5 24 "StakeWeirsModel" "s" "LStakeWeirsModel$State;", Cond.methodLink RX5 38 yX5_isIn, Cond.static yX5_isIn, Cond.initialized RX5, Cond.code yX5_isIn cX5_isIn 3 (some .boolean), Cond.methodLink RX5 45 yX5_no, Cond.instanceMethod yX5_no, Cond.selects RX5 yX5_no yX5_no, Cond.code yX5_no cX5_no 2 (some .int), Cond.methodLink RX5 110 yX4_pass_, Cond.instanceMethod yX4_pass_, Cond.selects RX4 yX4_pass_ yX4_pass_, Cond.initialized RX4, Cond.code yX4_pass_ cX4_pass_ 3 none, Cond.methodLink RX4 125 yX4_pass, Cond.instanceMethod yX4_pass, Cond.selects RX4 yX4_pass yX4_pass, Cond.code yX4_pass cX4_pass 2 none, Cond.fieldLink RX4 56 "StakeWeirsModel$State" "barges" "I", Cond.fieldLink RX4 3 "StakeWeirsModel$State" "this$0" "LStakeWeirsModel;", Cond.fieldLink RX4 19 "StakeWeirsModel$State" "wattle" "[I", Cond.methodLink RX4 102 Lib.Math.max.name, Cond.static Lib.Math.max.name]
def wsX5_pass_r2 : List Cond := [Cond.initialized "java/lang/Math", Cond.code Lib.Math.max.name Lib.Math.max.code 2 (some .int), Cond.fieldLink RX4 52 "StakeWeirsModel$State" "night" "I", Cond.methodLink RX4 111 yX4_runDown, Cond.instanceMethod yX4_runDown, Cond.selects RX4 yX4_runDown yX4_runDown, Cond.code yX4_runDown cX4_runDown 7 (some .int), Cond.fieldLink RX4 28 "StakeWeirsModel$State" "open" "[I", Cond.fieldLink RX4 15 "StakeWeirsModel$State" "stakes" "[I", Cond.fieldLink RX4 25 "StakeWeirsModel$State" "eels" "[I", Cond.methodLink RX4 92 Lib.Math.min.name, Cond.static Lib.Math.min.name, Cond.code Lib.Math.min.name Lib.Math.min.code 2 (some .int), Cond.methodLink RX4 83 yX4_run, Cond.instanceMethod yX4_run, Cond.selects RX4 yX4_run yX4_run, Cond.code yX4_run cX4_run 1 (some .int), Cond.methodLink RX4 75 yX4_moon, Cond.instanceMethod yX4_moon, Cond.selects RX4 yX4_moon yX4_moon, Cond.code yX4_moon cX4_moon 2 (some .int), Cond.methodLink RX4 79 yX4_isHeld, Cond.instanceMethod yX4_isHeld, Cond.selects RX4 yX4_isHeld yX4_isHeld]
def wsX5_pass_r3 : List Cond := [Cond.code yX4_isHeld cX4_isHeld 2 (some .boolean), Cond.fieldLink RX4 31 "StakeWeirsModel$State" "owes" "[I", Cond.methodLink RX4 115 yX4_goUp, Cond.instanceMethod yX4_goUp, Cond.selects RX4 yX4_goUp yX4_goUp, Cond.code yX4_goUp cX4_goUp 3 none, Cond.fieldLink RX4 37 "StakeWeirsModel$State" "at" "[I", Cond.methodLink RX4 105 yX4_breaks, Cond.instanceMethod yX4_breaks, Cond.selects RX4 yX4_breaks yX4_breaks, Cond.code yX4_breaks cX4_breaks 5 (some .boolean), Cond.fieldLink RX4 34 "StakeWeirsModel$State" "wide" "[I", Cond.fieldLink RX4 22 "StakeWeirsModel$State" "coins" "[I", Cond.fieldLink RX4 62 "StakeWeirsModel$State" "fines" "I", Cond.fieldLink RX4 40 "StakeWeirsModel$State" "broken" "[I", Cond.methodLink RX4 98 yX4_isInWay, Cond.instanceMethod yX4_isInWay, Cond.selects RX4 yX4_isInWay yX4_isInWay, Cond.code yX4_isInWay cX4_isInWay 3 (some .boolean), Cond.methodLink RX4 119 yX4_leave, Cond.instanceMethod yX4_leave, Cond.selects RX4 yX4_leave yX4_leave, Cond.code yX4_leave cX4_leave 3 none, Cond.fieldLink RX4 59 "StakeWeirsModel$State" "arrived" "I"]
def wsX5_pass_r4 : List Cond := [Cond.fieldLink RX4 43 "StakeWeirsModel$State" "was" "[I", Cond.methodLink RX4 122 yX4_payRent, Cond.instanceMethod yX4_payRent, Cond.selects RX4 yX4_payRent yX4_payRent, Cond.code yX4_payRent cX4_payRent 2 none, Cond.fieldLink RX4 65 "StakeWeirsModel$State" "rents" "I"]
def wsX5_pass : List Cond := .code yX5_pass cX5_pass 3 (some .int) :: ((wsX5_pass_r1 ++ (wsX5_pass_r2 ++ (wsX5_pass_r3 ++ wsX5_pass_r4))) ++ wsX50 ++ wsX40)
def wsX5_catches_r1 : List Cond := [Cond.fieldLink RX5 31 "StakeWeirsModel" "thrown" "I", Cond.fieldLink RX5 28 "StakeWeirsModel" "ahead" "LStakeWeirsModel$State;", Cond.fieldLink RX5 24 "StakeWeirsModel" "s" "LStakeWeirsModel$State;", Cond.methodLink RX5 58 yX5_isWeir, Cond.instanceMethod yX5_isWeir, Cond.selects RX5 yX5_isWeir yX5_isWeir, Cond.initialized RX5, Cond.code yX5_isWeir cX5_isWeir 2 (some .boolean), Cond.fieldLink RX5 35 "StakeWeirsModel" "weirs" "I", Cond.methodLink RX5 38 yX5_isIn, Cond.static yX5_isIn, Cond.code yX5_isIn cX5_isIn 3 (some .boolean), Cond.methodLink RX5 114 yX4_become, Cond.instanceMethod yX4_become, Cond.selects RX4 yX4_become yX4_become, Cond.initialized RX4, Cond.code yX4_become cX4_become 3 (some (.object "StakeWeirsModel$State")), Cond.fieldLink RX4 52 "StakeWeirsModel$State" "night" "I", Cond.fieldLink RX4 56 "StakeWeirsModel$State" "barges" "I", Cond.fieldLink RX4 59 "StakeWeirsModel$State" "arrived" "I", Cond.fieldLink RX4 62 "StakeWeirsModel$State" "fines" "I", Cond.fieldLink RX4 65 "StakeWeirsModel$State" "rents" "I", Cond.fieldLink RX4 15 "StakeWeirsModel$State" "stakes" "[I", Cond.fieldLink RX4 19 "StakeWeirsModel$State" "wattle" "[I"]
def wsX5_catches_r2 : List Cond := [Cond.fieldLink RX4 22 "StakeWeirsModel$State" "coins" "[I", Cond.fieldLink RX4 25 "StakeWeirsModel$State" "eels" "[I", Cond.fieldLink RX4 28 "StakeWeirsModel$State" "open" "[I", Cond.fieldLink RX4 31 "StakeWeirsModel$State" "owes" "[I", Cond.fieldLink RX4 34 "StakeWeirsModel$State" "wide" "[I", Cond.fieldLink RX4 37 "StakeWeirsModel$State" "at" "[I", Cond.fieldLink RX4 40 "StakeWeirsModel$State" "broken" "[I", Cond.fieldLink RX4 43 "StakeWeirsModel$State" "was" "[I", Cond.methodLink RX4 68 yX4_copy, Cond.instanceMethod yX4_copy, Cond.selects RX4 yX4_copy yX4_copy, Cond.code yX4_copy cX4_copy 3 none, Cond.methodLink RX4 46 arraycopyName, Cond.native arraycopyName, Cond.static arraycopyName, Cond.initialized "java/lang/System", Cond.methodLink RX5 118 yX4_runDown, Cond.instanceMethod yX4_runDown, Cond.selects RX4 yX4_runDown yX4_runDown, Cond.code yX4_runDown cX4_runDown 7 (some .int), Cond.fieldLink RX4 3 "StakeWeirsModel$State" "this$0" "LStakeWeirsModel;", Cond.methodLink RX4 92 Lib.Math.min.name, Cond.static Lib.Math.min.name, Cond.initialized "java/lang/Math"]
def wsX5_catches_r3 : List Cond := [Cond.code Lib.Math.min.name Lib.Math.min.code 2 (some .int), Cond.methodLink RX4 83 yX4_run, Cond.instanceMethod yX4_run, Cond.selects RX4 yX4_run yX4_run, Cond.code yX4_run cX4_run 1 (some .int), Cond.methodLink RX4 75 yX4_moon, Cond.instanceMethod yX4_moon, Cond.selects RX4 yX4_moon yX4_moon, Cond.code yX4_moon cX4_moon 2 (some .int), Cond.methodLink RX4 79 yX4_isHeld, Cond.instanceMethod yX4_isHeld, Cond.selects RX4 yX4_isHeld yX4_isHeld, Cond.code yX4_isHeld cX4_isHeld 2 (some .boolean), Cond.methodLink RX5 45 yX5_no, Cond.instanceMethod yX5_no, Cond.selects RX5 yX5_no yX5_no, Cond.code yX5_no cX5_no 2 (some .int)]
def wsX5_catches : List Cond := .code yX5_catches cX5_catches 2 (some .int) :: ((wsX5_catches_r1 ++ (wsX5_catches_r2 ++ wsX5_catches_r3)) ++ wsX50 ++ wsX40)
def wsX5_isUnderWay : List Cond := .code yX5_isUnderWay cX5_isUnderWay 3 (some .boolean) :: ([.fieldLink RX5 28 "StakeWeirsModel" "ahead" "LStakeWeirsModel$State;"] ++ wsX50 ++ wsX40)
def wsX5_arrives_r1 : List Cond := [Cond.fieldLink RX5 31 "StakeWeirsModel" "thrown" "I", Cond.fieldLink RX5 28 "StakeWeirsModel" "ahead" "LStakeWeirsModel$State;", Cond.fieldLink RX5 24 "StakeWeirsModel" "s" "LStakeWeirsModel$State;", Cond.methodLink RX5 98 yX5_isBarge, Cond.instanceMethod yX5_isBarge, Cond.selects RX5 yX5_isBarge yX5_isBarge, Cond.initialized RX5, Cond.code yX5_isBarge cX5_isBarge 2 (some .boolean), Cond.methodLink RX5 38 yX5_isIn, Cond.static yX5_isIn, Cond.code yX5_isIn cX5_isIn 3 (some .boolean), Cond.methodLink RX5 45 yX5_no, Cond.instanceMethod yX5_no, Cond.selects RX5 yX5_no yX5_no, Cond.code yX5_no cX5_no 2 (some .int), Cond.methodLink RX5 114 yX4_become, Cond.instanceMethod yX4_become, Cond.selects RX4 yX4_become yX4_become, Cond.initialized RX4, Cond.code yX4_become cX4_become 3 (some (.object "StakeWeirsModel$State")), Cond.fieldLink RX4 52 "StakeWeirsModel$State" "night" "I", Cond.fieldLink RX4 56 "StakeWeirsModel$State" "barges" "I", Cond.fieldLink RX4 59 "StakeWeirsModel$State" "arrived" "I", Cond.fieldLink RX4 62 "StakeWeirsModel$State" "fines" "I"]
def wsX5_arrives_r2 : List Cond := [Cond.fieldLink RX4 65 "StakeWeirsModel$State" "rents" "I", Cond.fieldLink RX4 15 "StakeWeirsModel$State" "stakes" "[I", Cond.fieldLink RX4 19 "StakeWeirsModel$State" "wattle" "[I", Cond.fieldLink RX4 22 "StakeWeirsModel$State" "coins" "[I", Cond.fieldLink RX4 25 "StakeWeirsModel$State" "eels" "[I", Cond.fieldLink RX4 28 "StakeWeirsModel$State" "open" "[I", Cond.fieldLink RX4 31 "StakeWeirsModel$State" "owes" "[I", Cond.fieldLink RX4 34 "StakeWeirsModel$State" "wide" "[I", Cond.fieldLink RX4 37 "StakeWeirsModel$State" "at" "[I", Cond.fieldLink RX4 40 "StakeWeirsModel$State" "broken" "[I", Cond.fieldLink RX4 43 "StakeWeirsModel$State" "was" "[I", Cond.methodLink RX4 68 yX4_copy, Cond.instanceMethod yX4_copy, Cond.selects RX4 yX4_copy yX4_copy, Cond.code yX4_copy cX4_copy 3 none, Cond.methodLink RX4 46 arraycopyName, Cond.native arraycopyName, Cond.static arraycopyName, Cond.initialized "java/lang/System", Cond.methodLink RX5 124 yX5_isUnderWay, Cond.instanceMethod yX5_isUnderWay, Cond.selects RX5 yX5_isUnderWay yX5_isUnderWay, Cond.code yX5_isUnderWay cX5_isUnderWay 3 (some .boolean), Cond.methodLink RX5 127 yX4_pass]
def wsX5_arrives_r3 : List Cond := [Cond.instanceMethod yX4_pass, Cond.selects RX4 yX4_pass yX4_pass, Cond.code yX4_pass cX4_pass 2 none, Cond.fieldLink RX4 3 "StakeWeirsModel$State" "this$0" "LStakeWeirsModel;", Cond.methodLink RX4 102 Lib.Math.max.name, Cond.static Lib.Math.max.name, Cond.initialized "java/lang/Math", Cond.code Lib.Math.max.name Lib.Math.max.code 2 (some .int), Cond.methodLink RX4 111 yX4_runDown, Cond.instanceMethod yX4_runDown, Cond.selects RX4 yX4_runDown yX4_runDown, Cond.code yX4_runDown cX4_runDown 7 (some .int), Cond.methodLink RX4 92 Lib.Math.min.name, Cond.static Lib.Math.min.name, Cond.code Lib.Math.min.name Lib.Math.min.code 2 (some .int), Cond.methodLink RX4 83 yX4_run, Cond.instanceMethod yX4_run, Cond.selects RX4 yX4_run yX4_run, Cond.code yX4_run cX4_run 1 (some .int), Cond.methodLink RX4 75 yX4_moon, Cond.instanceMethod yX4_moon, Cond.selects RX4 yX4_moon yX4_moon, Cond.code yX4_moon cX4_moon 2 (some .int), Cond.methodLink RX4 79 yX4_isHeld]
def wsX5_arrives_r4 : List Cond := [Cond.instanceMethod yX4_isHeld, Cond.selects RX4 yX4_isHeld yX4_isHeld, Cond.code yX4_isHeld cX4_isHeld 2 (some .boolean), Cond.methodLink RX4 115 yX4_goUp, Cond.instanceMethod yX4_goUp, Cond.selects RX4 yX4_goUp yX4_goUp, Cond.code yX4_goUp cX4_goUp 3 none, Cond.methodLink RX4 105 yX4_breaks, Cond.instanceMethod yX4_breaks, Cond.selects RX4 yX4_breaks yX4_breaks, Cond.code yX4_breaks cX4_breaks 5 (some .boolean), Cond.methodLink RX4 98 yX4_isInWay, Cond.instanceMethod yX4_isInWay, Cond.selects RX4 yX4_isInWay yX4_isInWay, Cond.code yX4_isInWay cX4_isInWay 3 (some .boolean), Cond.methodLink RX4 119 yX4_leave, Cond.instanceMethod yX4_leave, Cond.selects RX4 yX4_leave yX4_leave, Cond.code yX4_leave cX4_leave 3 none, Cond.methodLink RX4 122 yX4_payRent, Cond.instanceMethod yX4_payRent, Cond.selects RX4 yX4_payRent yX4_payRent, Cond.code yX4_payRent cX4_payRent 2 none]
def wsX5_arrives : List Cond := .code yX5_arrives cX5_arrives 3 (some .int) :: ((wsX5_arrives_r1 ++ (wsX5_arrives_r2 ++ (wsX5_arrives_r3 ++ wsX5_arrives_r4))) ++ wsX50 ++ wsX40)
def wsX5_lasts_r1 : List Cond := [Cond.fieldLink RX5 31 "StakeWeirsModel" "thrown" "I", Cond.fieldLink RX5 28 "StakeWeirsModel" "ahead" "LStakeWeirsModel$State;", Cond.fieldLink RX5 24 "StakeWeirsModel" "s" "LStakeWeirsModel$State;", Cond.methodLink RX5 58 yX5_isWeir, Cond.instanceMethod yX5_isWeir, Cond.selects RX5 yX5_isWeir yX5_isWeir, Cond.initialized RX5, Cond.code yX5_isWeir cX5_isWeir 2 (some .boolean), Cond.fieldLink RX5 35 "StakeWeirsModel" "weirs" "I", Cond.methodLink RX5 38 yX5_isIn, Cond.static yX5_isIn, Cond.code yX5_isIn cX5_isIn 3 (some .boolean), Cond.methodLink RX5 45 yX5_no, Cond.instanceMethod yX5_no, Cond.selects RX5 yX5_no yX5_no, Cond.code yX5_no cX5_no 2 (some .int), Cond.methodLink RX5 114 yX4_become, Cond.instanceMethod yX4_become, Cond.selects RX4 yX4_become yX4_become, Cond.initialized RX4, Cond.code yX4_become cX4_become 3 (some (.object "StakeWeirsModel$State")), Cond.fieldLink RX4 52 "StakeWeirsModel$State" "night" "I", Cond.fieldLink RX4 56 "StakeWeirsModel$State" "barges" "I", Cond.fieldLink RX4 59 "StakeWeirsModel$State" "arrived" "I"]
def wsX5_lasts_r2 : List Cond := [Cond.fieldLink RX4 62 "StakeWeirsModel$State" "fines" "I", Cond.fieldLink RX4 65 "StakeWeirsModel$State" "rents" "I", Cond.fieldLink RX4 15 "StakeWeirsModel$State" "stakes" "[I", Cond.fieldLink RX4 19 "StakeWeirsModel$State" "wattle" "[I", Cond.fieldLink RX4 22 "StakeWeirsModel$State" "coins" "[I", Cond.fieldLink RX4 25 "StakeWeirsModel$State" "eels" "[I", Cond.fieldLink RX4 28 "StakeWeirsModel$State" "open" "[I", Cond.fieldLink RX4 31 "StakeWeirsModel$State" "owes" "[I", Cond.fieldLink RX4 34 "StakeWeirsModel$State" "wide" "[I", Cond.fieldLink RX4 37 "StakeWeirsModel$State" "at" "[I", Cond.fieldLink RX4 40 "StakeWeirsModel$State" "broken" "[I", Cond.fieldLink RX4 43 "StakeWeirsModel$State" "was" "[I", Cond.methodLink RX4 68 yX4_copy, Cond.instanceMethod yX4_copy, Cond.selects RX4 yX4_copy yX4_copy, Cond.code yX4_copy cX4_copy 3 none, Cond.methodLink RX4 46 arraycopyName, Cond.native arraycopyName, Cond.static arraycopyName, Cond.initialized "java/lang/System", Cond.methodLink RX5 62 yX4_isHeld, Cond.instanceMethod yX4_isHeld, Cond.selects RX4 yX4_isHeld yX4_isHeld, Cond.code yX4_isHeld cX4_isHeld 2 (some .boolean)]
def wsX5_lasts_r3 : List Cond := [Cond.methodLink RX5 127 yX4_pass, Cond.instanceMethod yX4_pass, Cond.selects RX4 yX4_pass yX4_pass, Cond.code yX4_pass cX4_pass 2 none, Cond.fieldLink RX4 3 "StakeWeirsModel$State" "this$0" "LStakeWeirsModel;", Cond.methodLink RX4 102 Lib.Math.max.name, Cond.static Lib.Math.max.name, Cond.initialized "java/lang/Math", Cond.code Lib.Math.max.name Lib.Math.max.code 2 (some .int), Cond.methodLink RX4 111 yX4_runDown, Cond.instanceMethod yX4_runDown, Cond.selects RX4 yX4_runDown yX4_runDown, Cond.code yX4_runDown cX4_runDown 7 (some .int), Cond.methodLink RX4 92 Lib.Math.min.name, Cond.static Lib.Math.min.name, Cond.code Lib.Math.min.name Lib.Math.min.code 2 (some .int), Cond.methodLink RX4 83 yX4_run, Cond.instanceMethod yX4_run, Cond.selects RX4 yX4_run yX4_run, Cond.code yX4_run cX4_run 1 (some .int), Cond.methodLink RX4 75 yX4_moon, Cond.instanceMethod yX4_moon, Cond.selects RX4 yX4_moon yX4_moon, Cond.code yX4_moon cX4_moon 2 (some .int)]
def wsX5_lasts_r4 : List Cond := [Cond.methodLink RX4 79 yX4_isHeld, Cond.methodLink RX4 115 yX4_goUp, Cond.instanceMethod yX4_goUp, Cond.selects RX4 yX4_goUp yX4_goUp, Cond.code yX4_goUp cX4_goUp 3 none, Cond.methodLink RX4 105 yX4_breaks, Cond.instanceMethod yX4_breaks, Cond.selects RX4 yX4_breaks yX4_breaks, Cond.code yX4_breaks cX4_breaks 5 (some .boolean), Cond.methodLink RX4 98 yX4_isInWay, Cond.instanceMethod yX4_isInWay, Cond.selects RX4 yX4_isInWay yX4_isInWay, Cond.code yX4_isInWay cX4_isInWay 3 (some .boolean), Cond.methodLink RX4 119 yX4_leave, Cond.instanceMethod yX4_leave, Cond.selects RX4 yX4_leave yX4_leave, Cond.code yX4_leave cX4_leave 3 none, Cond.methodLink RX4 122 yX4_payRent, Cond.instanceMethod yX4_payRent, Cond.selects RX4 yX4_payRent yX4_payRent, Cond.code yX4_payRent cX4_payRent 2 none]
def wsX5_lasts : List Cond := .code yX5_lasts cX5_lasts 3 (some .int) :: ((wsX5_lasts_r1 ++ (wsX5_lasts_r2 ++ (wsX5_lasts_r3 ++ wsX5_lasts_r4))) ++ wsX50 ++ wsX40)
def wsX5_foresee_r1 : List Cond := [Cond.fieldLink RX5 31 "StakeWeirsModel" "thrown" "I", Cond.fieldLink RX5 28 "StakeWeirsModel" "ahead" "LStakeWeirsModel$State;", Cond.fieldLink RX5 24 "StakeWeirsModel" "s" "LStakeWeirsModel$State;", Cond.methodLink RX5 38 yX5_isIn, Cond.static yX5_isIn, Cond.initialized RX5, Cond.code yX5_isIn cX5_isIn 3 (some .boolean), Cond.methodLink RX5 45 yX5_no, Cond.instanceMethod yX5_no, Cond.selects RX5 yX5_no yX5_no, Cond.code yX5_no cX5_no 2 (some .int), Cond.methodLink RX5 114 yX4_become, Cond.instanceMethod yX4_become, Cond.selects RX4 yX4_become yX4_become, Cond.initialized RX4, Cond.code yX4_become cX4_become 3 (some (.object "StakeWeirsModel$State")), Cond.fieldLink RX4 52 "StakeWeirsModel$State" "night" "I", Cond.fieldLink RX4 56 "StakeWeirsModel$State" "barges" "I", Cond.fieldLink RX4 59 "StakeWeirsModel$State" "arrived" "I", Cond.fieldLink RX4 62 "StakeWeirsModel$State" "fines" "I", Cond.fieldLink RX4 65 "StakeWeirsModel$State" "rents" "I", Cond.fieldLink RX4 15 "StakeWeirsModel$State" "stakes" "[I", Cond.fieldLink RX4 19 "StakeWeirsModel$State" "wattle" "[I", Cond.fieldLink RX4 22 "StakeWeirsModel$State" "coins" "[I"]
def wsX5_foresee_r2 : List Cond := [Cond.fieldLink RX4 25 "StakeWeirsModel$State" "eels" "[I", Cond.fieldLink RX4 28 "StakeWeirsModel$State" "open" "[I", Cond.fieldLink RX4 31 "StakeWeirsModel$State" "owes" "[I", Cond.fieldLink RX4 34 "StakeWeirsModel$State" "wide" "[I", Cond.fieldLink RX4 37 "StakeWeirsModel$State" "at" "[I", Cond.fieldLink RX4 40 "StakeWeirsModel$State" "broken" "[I", Cond.fieldLink RX4 43 "StakeWeirsModel$State" "was" "[I", Cond.methodLink RX4 68 yX4_copy, Cond.instanceMethod yX4_copy, Cond.selects RX4 yX4_copy yX4_copy, Cond.code yX4_copy cX4_copy 3 none, Cond.methodLink RX4 46 arraycopyName, Cond.native arraycopyName, Cond.static arraycopyName, Cond.initialized "java/lang/System", Cond.methodLink RX5 110 yX4_pass_, Cond.instanceMethod yX4_pass_, Cond.selects RX4 yX4_pass_ yX4_pass_, Cond.code yX4_pass_ cX4_pass_ 3 none, Cond.methodLink RX4 125 yX4_pass, Cond.instanceMethod yX4_pass, Cond.selects RX4 yX4_pass yX4_pass, Cond.code yX4_pass cX4_pass 2 none, Cond.fieldLink RX4 3 "StakeWeirsModel$State" "this$0" "LStakeWeirsModel;"]
def wsX5_foresee_r3 : List Cond := [Cond.methodLink RX4 102 Lib.Math.max.name, Cond.static Lib.Math.max.name, Cond.initialized "java/lang/Math", Cond.code Lib.Math.max.name Lib.Math.max.code 2 (some .int), Cond.methodLink RX4 111 yX4_runDown, Cond.instanceMethod yX4_runDown, Cond.selects RX4 yX4_runDown yX4_runDown, Cond.code yX4_runDown cX4_runDown 7 (some .int), Cond.methodLink RX4 92 Lib.Math.min.name, Cond.static Lib.Math.min.name, Cond.code Lib.Math.min.name Lib.Math.min.code 2 (some .int), Cond.methodLink RX4 83 yX4_run, Cond.instanceMethod yX4_run, Cond.selects RX4 yX4_run yX4_run, Cond.code yX4_run cX4_run 1 (some .int), Cond.methodLink RX4 75 yX4_moon, Cond.instanceMethod yX4_moon, Cond.selects RX4 yX4_moon yX4_moon, Cond.code yX4_moon cX4_moon 2 (some .int), Cond.methodLink RX4 79 yX4_isHeld, Cond.instanceMethod yX4_isHeld, Cond.selects RX4 yX4_isHeld yX4_isHeld, Cond.code yX4_isHeld cX4_isHeld 2 (some .boolean), Cond.methodLink RX4 115 yX4_goUp]
def wsX5_foresee_r4 : List Cond := [Cond.instanceMethod yX4_goUp, Cond.selects RX4 yX4_goUp yX4_goUp, Cond.code yX4_goUp cX4_goUp 3 none, Cond.methodLink RX4 105 yX4_breaks, Cond.instanceMethod yX4_breaks, Cond.selects RX4 yX4_breaks yX4_breaks, Cond.code yX4_breaks cX4_breaks 5 (some .boolean), Cond.methodLink RX4 98 yX4_isInWay, Cond.instanceMethod yX4_isInWay, Cond.selects RX4 yX4_isInWay yX4_isInWay, Cond.code yX4_isInWay cX4_isInWay 3 (some .boolean), Cond.methodLink RX4 119 yX4_leave, Cond.instanceMethod yX4_leave, Cond.selects RX4 yX4_leave yX4_leave, Cond.code yX4_leave cX4_leave 3 none, Cond.methodLink RX4 122 yX4_payRent, Cond.instanceMethod yX4_payRent, Cond.selects RX4 yX4_payRent yX4_payRent, Cond.code yX4_payRent cX4_payRent 2 none, Cond.methodLink RX5 104 yX4_counted, Cond.instanceMethod yX4_counted, Cond.selects RX4 yX4_counted yX4_counted, Cond.code yX4_counted cX4_counted 3 (some .int), Cond.arrayClass .int]
def wsX5_foresee_r5 : List Cond := [Cond.methodLink RX4 128 yX4_held, Cond.instanceMethod yX4_held, Cond.selects RX4 yX4_held yX4_held, Cond.code yX4_held cX4_held 3 (some .int), Cond.methodLink RX4 131 yX4_allEels, Cond.instanceMethod yX4_allEels, Cond.selects RX4 yX4_allEels yX4_allEels, Cond.code yX4_allEels cX4_allEels 3 (some .int)]
def wsX5_foresee : List Cond := .code yX5_foresee cX5_foresee 3 (some .int) :: ((wsX5_foresee_r1 ++ (wsX5_foresee_r2 ++ (wsX5_foresee_r3 ++ (wsX5_foresee_r4 ++ wsX5_foresee_r5)))) ++ wsX50 ++ wsX40)
def wsX5_advise_r1 : List Cond := [Cond.fieldLink RX5 31 "StakeWeirsModel" "thrown" "I", Cond.fieldLink RX5 28 "StakeWeirsModel" "ahead" "LStakeWeirsModel$State;", Cond.fieldLink RX5 24 "StakeWeirsModel" "s" "LStakeWeirsModel$State;", Cond.methodLink RX5 58 yX5_isWeir, Cond.instanceMethod yX5_isWeir, Cond.selects RX5 yX5_isWeir yX5_isWeir, Cond.initialized RX5, Cond.code yX5_isWeir cX5_isWeir 2 (some .boolean), Cond.fieldLink RX5 35 "StakeWeirsModel" "weirs" "I", Cond.methodLink RX5 38 yX5_isIn, Cond.static yX5_isIn, Cond.code yX5_isIn cX5_isIn 3 (some .boolean), Cond.methodLink RX5 45 yX5_no, Cond.instanceMethod yX5_no, Cond.selects RX5 yX5_no yX5_no, Cond.code yX5_no cX5_no 2 (some .int), Cond.methodLink RX5 114 yX4_become, Cond.instanceMethod yX4_become, Cond.selects RX4 yX4_become yX4_become, Cond.initialized RX4, Cond.code yX4_become cX4_become 3 (some (.object "StakeWeirsModel$State")), Cond.fieldLink RX4 52 "StakeWeirsModel$State" "night" "I", Cond.fieldLink RX4 56 "StakeWeirsModel$State" "barges" "I", Cond.fieldLink RX4 59 "StakeWeirsModel$State" "arrived" "I"]
def wsX5_advise_r2 : List Cond := [Cond.fieldLink RX4 62 "StakeWeirsModel$State" "fines" "I", Cond.fieldLink RX4 65 "StakeWeirsModel$State" "rents" "I", Cond.fieldLink RX4 15 "StakeWeirsModel$State" "stakes" "[I", Cond.fieldLink RX4 19 "StakeWeirsModel$State" "wattle" "[I", Cond.fieldLink RX4 22 "StakeWeirsModel$State" "coins" "[I", Cond.fieldLink RX4 25 "StakeWeirsModel$State" "eels" "[I", Cond.fieldLink RX4 28 "StakeWeirsModel$State" "open" "[I", Cond.fieldLink RX4 31 "StakeWeirsModel$State" "owes" "[I", Cond.fieldLink RX4 34 "StakeWeirsModel$State" "wide" "[I", Cond.fieldLink RX4 37 "StakeWeirsModel$State" "at" "[I", Cond.fieldLink RX4 40 "StakeWeirsModel$State" "broken" "[I", Cond.fieldLink RX4 43 "StakeWeirsModel$State" "was" "[I", Cond.methodLink RX4 68 yX4_copy, Cond.instanceMethod yX4_copy, Cond.selects RX4 yX4_copy yX4_copy, Cond.code yX4_copy cX4_copy 3 none, Cond.methodLink RX4 46 arraycopyName, Cond.native arraycopyName, Cond.static arraycopyName, Cond.initialized "java/lang/System", Cond.methodLink RX5 110 yX4_pass_, Cond.instanceMethod yX4_pass_, Cond.selects RX4 yX4_pass_ yX4_pass_, Cond.code yX4_pass_ cX4_pass_ 3 none]
def wsX5_advise_r3 : List Cond := [Cond.methodLink RX4 125 yX4_pass, Cond.instanceMethod yX4_pass, Cond.selects RX4 yX4_pass yX4_pass, Cond.code yX4_pass cX4_pass 2 none, Cond.fieldLink RX4 3 "StakeWeirsModel$State" "this$0" "LStakeWeirsModel;", Cond.methodLink RX4 102 Lib.Math.max.name, Cond.static Lib.Math.max.name, Cond.initialized "java/lang/Math", Cond.code Lib.Math.max.name Lib.Math.max.code 2 (some .int), Cond.methodLink RX4 111 yX4_runDown, Cond.instanceMethod yX4_runDown, Cond.selects RX4 yX4_runDown yX4_runDown, Cond.code yX4_runDown cX4_runDown 7 (some .int), Cond.methodLink RX4 92 Lib.Math.min.name, Cond.static Lib.Math.min.name, Cond.code Lib.Math.min.name Lib.Math.min.code 2 (some .int), Cond.methodLink RX4 83 yX4_run, Cond.instanceMethod yX4_run, Cond.selects RX4 yX4_run yX4_run, Cond.code yX4_run cX4_run 1 (some .int), Cond.methodLink RX4 75 yX4_moon, Cond.instanceMethod yX4_moon, Cond.selects RX4 yX4_moon yX4_moon, Cond.code yX4_moon cX4_moon 2 (some .int)]
def wsX5_advise_r4 : List Cond := [Cond.methodLink RX4 79 yX4_isHeld, Cond.instanceMethod yX4_isHeld, Cond.selects RX4 yX4_isHeld yX4_isHeld, Cond.code yX4_isHeld cX4_isHeld 2 (some .boolean), Cond.methodLink RX4 115 yX4_goUp, Cond.instanceMethod yX4_goUp, Cond.selects RX4 yX4_goUp yX4_goUp, Cond.code yX4_goUp cX4_goUp 3 none, Cond.methodLink RX4 105 yX4_breaks, Cond.instanceMethod yX4_breaks, Cond.selects RX4 yX4_breaks yX4_breaks, Cond.code yX4_breaks cX4_breaks 5 (some .boolean), Cond.methodLink RX4 98 yX4_isInWay, Cond.instanceMethod yX4_isInWay, Cond.selects RX4 yX4_isInWay yX4_isInWay, Cond.code yX4_isInWay cX4_isInWay 3 (some .boolean), Cond.methodLink RX4 119 yX4_leave, Cond.instanceMethod yX4_leave, Cond.selects RX4 yX4_leave yX4_leave, Cond.code yX4_leave cX4_leave 3 none, Cond.methodLink RX4 122 yX4_payRent, Cond.instanceMethod yX4_payRent, Cond.selects RX4 yX4_payRent yX4_payRent, Cond.code yX4_payRent cX4_payRent 2 none]
def wsX5_advise : List Cond := .code yX5_advise cX5_advise 6 (some .int) :: ((wsX5_advise_r1 ++ (wsX5_advise_r2 ++ (wsX5_advise_r3 ++ wsX5_advise_r4))) ++ wsX50 ++ wsX40)
def wsX5_mean : List Cond := .code yX5_mean cX5_mean 3 (some .double) :: ([.fieldLink RX5 31 "StakeWeirsModel" "thrown" "I", .fieldLink RX5 35 "StakeWeirsModel" "weirs" "I", .fieldLink RX5 24 "StakeWeirsModel" "s" "LStakeWeirsModel$State;", .methodLink RX5 62 yX4_isHeld, .instanceMethod yX4_isHeld, .selects RX4 yX4_isHeld yX4_isHeld, .initialized RX4, .code yX4_isHeld cX4_isHeld 2 (some .boolean), .fieldLink RX4 31 "StakeWeirsModel$State" "owes" "[I", .methodLink RX5 129 yX4_held, .instanceMethod yX4_held, .selects RX4 yX4_held yX4_held, .code yX4_held cX4_held 3 (some .int), .fieldLink RX4 3 "StakeWeirsModel$State" "this$0" "LStakeWeirsModel;", .methodLink RX4 79 yX4_isHeld] ++ wsX50 ++ wsX40)
def wsX5_digest_r1 : List Cond := [Cond.fieldLink RX5 31 "StakeWeirsModel" "thrown" "I", Cond.constantLong RX5 132 (1409), Cond.constantLong RX5 134 (31), Cond.fieldLink RX5 24 "StakeWeirsModel" "s" "LStakeWeirsModel$State;", Cond.fieldLink RX5 7 "StakeWeirsModel" "table" "[I", Cond.fieldLink RX5 35 "StakeWeirsModel" "weirs" "I", Cond.methodLink RX5 104 yX4_counted, Cond.instanceMethod yX4_counted, Cond.selects RX4 yX4_counted yX4_counted, Cond.initialized RX4, Cond.code yX4_counted cX4_counted 3 (some .int), Cond.arrayClass .int, Cond.fieldLink RX4 52 "StakeWeirsModel$State" "night" "I", Cond.fieldLink RX4 3 "StakeWeirsModel$State" "this$0" "LStakeWeirsModel;", Cond.fieldLink RX4 56 "StakeWeirsModel$State" "barges" "I", Cond.fieldLink RX4 59 "StakeWeirsModel$State" "arrived" "I", Cond.fieldLink RX4 62 "StakeWeirsModel$State" "fines" "I", Cond.fieldLink RX4 65 "StakeWeirsModel$State" "rents" "I", Cond.methodLink RX4 75 yX4_moon, Cond.instanceMethod yX4_moon, Cond.selects RX4 yX4_moon yX4_moon, Cond.code yX4_moon cX4_moon 2 (some .int), Cond.methodLink RX4 83 yX4_run, Cond.instanceMethod yX4_run]
def wsX5_digest_r2 : List Cond := [Cond.selects RX4 yX4_run yX4_run, Cond.code yX4_run cX4_run 1 (some .int), Cond.methodLink RX4 128 yX4_held, Cond.instanceMethod yX4_held, Cond.selects RX4 yX4_held yX4_held, Cond.code yX4_held cX4_held 3 (some .int), Cond.methodLink RX4 79 yX4_isHeld, Cond.instanceMethod yX4_isHeld, Cond.selects RX4 yX4_isHeld yX4_isHeld, Cond.code yX4_isHeld cX4_isHeld 2 (some .boolean), Cond.fieldLink RX4 31 "StakeWeirsModel$State" "owes" "[I", Cond.methodLink RX4 131 yX4_allEels, Cond.instanceMethod yX4_allEels, Cond.selects RX4 yX4_allEels yX4_allEels, Cond.code yX4_allEels cX4_allEels 3 (some .int), Cond.fieldLink RX4 25 "StakeWeirsModel$State" "eels" "[I", Cond.methodLink RX5 87 yX5_weirTold, Cond.instanceMethod yX5_weirTold, Cond.selects RX5 yX5_weirTold yX5_weirTold, Cond.initialized RX5, Cond.code yX5_weirTold cX5_weirTold 4 (some .int), Cond.fieldLink RX5 13 "StakeWeirsModel" "place" "[I", Cond.fieldLink RX5 16 "StakeWeirsModel" "rent" "[I", Cond.methodLink RX5 101 yX5_bargeTold]
def wsX5_digest_r3 : List Cond := [Cond.instanceMethod yX5_bargeTold, Cond.selects RX5 yX5_bargeTold yX5_bargeTold, Cond.code yX5_bargeTold cX5_bargeTold 3 (some .int), Cond.methodLink RX5 95 yX5_nextFor, Cond.instanceMethod yX5_nextFor, Cond.selects RX5 yX5_nextFor yX5_nextFor, Cond.code yX5_nextFor cX5_nextFor 4 (some .int), Cond.methodLink RX5 91 yX4_isInWay, Cond.instanceMethod yX4_isInWay, Cond.selects RX4 yX4_isInWay yX4_isInWay, Cond.code yX4_isInWay cX4_isInWay 3 (some .boolean), Cond.fieldLink RX4 28 "StakeWeirsModel$State" "open" "[I", Cond.fieldLink RX4 15 "StakeWeirsModel$State" "stakes" "[I"]
def wsX5_digest : List Cond := .code yX5_digest cX5_digest 7 (some .long) :: ((wsX5_digest_r1 ++ (wsX5_digest_r2 ++ wsX5_digest_r3)) ++ wsX50 ++ wsX40)
def wsJ9_max_7cf53 : List Cond := .code yJ9_max_7cf53 cJ9_max_7cf53 2 (some .int) :: ([])
def wsJ9_min_7cf53 : List Cond := .code yJ9_min_7cf53 cJ9_min_7cf53 2 (some .int) :: ([])
def wsL_weir_r1 : List Cond := [Cond.classLink RL 13 "java/lang/IllegalArgumentException", Cond.classLink RL 15 "java/lang/IllegalStateException", Cond.methodLink RL 7 yX3_weir, Cond.instanceMethod yX3_weir, Cond.selects RX3 yX3_weir yX3_weir, Cond.initialized RX3, Cond.code yX3_weir cX3_weir 4 (some .int), Cond.classLink RX3 23 "java/lang/IllegalArgumentException", Cond.initialized "java/lang/IllegalArgumentException", Cond.classLink RX3 34 "java/lang/IllegalStateException", Cond.initialized "java/lang/IllegalStateException", Cond.fieldLink RX3 12 "StakeWeirs" "now" "LStakeWeirs$Estuary;", Cond.fieldLink RX3 30 "StakeWeirs$Estuary" "weirCount" "I", Cond.methodLink RX3 19 yX3_isWithin, Cond.static yX3_isWithin, Cond.code yX3_isWithin cX3_isWithin 3 (some .boolean), Cond.methodLink RX3 39 yX1_addWeir, Cond.instanceMethod yX1_addWeir, Cond.selects RX1 yX1_addWeir yX1_addWeir, Cond.initialized RX1, Cond.code yX1_addWeir cX1_addWeir 6 (some .int), Cond.fieldLink RX1 39 "StakeWeirs$Estuary" "weirCount" "I", Cond.methodLink RX1 81 yX1_putInOrder, Cond.instanceMethod yX1_putInOrder]
def wsL_weir_r2 : List Cond := [Cond.selects RX1 yX1_putInOrder yX1_putInOrder, Cond.code yX1_putInOrder cX1_putInOrder 4 none, Cond.fieldLink RX1 15 "StakeWeirs$Estuary" "order" "[I", Cond.methodLink RX1 89 yX1_isSeawardsOf, Cond.instanceMethod yX1_isSeawardsOf, Cond.selects RX1 yX1_isSeawardsOf yX1_isSeawardsOf, Cond.code yX1_isSeawardsOf cX1_isSeawardsOf 4 (some .boolean), Cond.fieldLink RX1 93 "StakeWeirs$Weir" "place" "I", Cond.methodLink RX1 43 yX1_weirAt, Cond.instanceMethod yX1_weirAt, Cond.selects RX1 yX1_weirAt yX1_weirAt, Cond.code yX1_weirAt cX1_weirAt 3 (some (.object "StakeWeirs$Weir")), Cond.fieldLink RX1 20 "StakeWeirs$Estuary" "weirs" "[LStakeWeirs$Weir;", Cond.methodLink RX1 85 yX2_makeNew, Cond.instanceMethod yX2_makeNew, Cond.selects RX2 yX2_makeNew yX2_makeNew, Cond.initialized RX2, Cond.code yX2_makeNew cX2_makeNew 4 none, Cond.fieldLink RX2 9 "StakeWeirs$Weir" "place" "I", Cond.fieldLink RX2 15 "StakeWeirs$Weir" "stakes" "I", Cond.fieldLink RX2 18 "StakeWeirs$Weir" "wattle" "I", Cond.fieldLink RX2 21 "StakeWeirs$Weir" "rent" "I", Cond.fieldLink RX2 24 "StakeWeirs$Weir" "coins" "I", Cond.fieldLink RX2 27 "StakeWeirs$Weir" "eels" "I"]
def wsL_weir_r3 : List Cond := [Cond.fieldLink RX2 30 "StakeWeirs$Weir" "open" "Z", Cond.fieldLink RX2 34 "StakeWeirs$Weir" "owed" "I"]
def wsL_weir : List Cond := .codeWith yL_weir cL_weir 6 (some .int) [(0, 12, 15, 13), (0, 12, 19, 15)] :: ((wsL_weir_r1 ++ (wsL_weir_r2 ++ wsL_weir_r3)) ++ wsX30 ++ wsX10 ++ wsX20 ++ (vx_atS RX3 27 "java/lang/IllegalArgumentException" ["java/lang/RuntimeException", "java/lang/Exception"]).filter goodWord ++ (vx_atS RX3 38 "java/lang/IllegalStateException" ["java/lang/RuntimeException", "java/lang/Exception"]).filter goodWord)
def wsL_gate_r1 : List Cond := [Cond.classLink RL 21 "java/lang/IndexOutOfBoundsException", Cond.classLink RL 15 "java/lang/IllegalStateException", Cond.methodLink RL 17 yX3_gate, Cond.instanceMethod yX3_gate, Cond.selects RX3 yX3_gate yX3_gate, Cond.initialized RX3, Cond.code yX3_gate cX3_gate 3 (some .boolean), Cond.classLink RX3 47 "java/lang/IndexOutOfBoundsException", Cond.initialized "java/lang/IndexOutOfBoundsException", Cond.classLink RX3 34 "java/lang/IllegalStateException", Cond.initialized "java/lang/IllegalStateException", Cond.fieldLink RX3 12 "StakeWeirs" "now" "LStakeWeirs$Estuary;", Cond.fieldLink RX3 60 "StakeWeirs$Weir" "open" "Z", Cond.methodLink RX3 43 yX1_weirAt, Cond.instanceMethod yX1_weirAt, Cond.selects RX1 yX1_weirAt yX1_weirAt, Cond.initialized RX1, Cond.code yX1_weirAt cX1_weirAt 3 (some (.object "StakeWeirs$Weir")), Cond.fieldLink RX1 39 "StakeWeirs$Estuary" "weirCount" "I", Cond.fieldLink RX1 20 "StakeWeirs$Estuary" "weirs" "[LStakeWeirs$Weir;", Cond.methodLink RX3 52 yX2_isHeld, Cond.instanceMethod yX2_isHeld, Cond.selects RX2 yX2_isHeld yX2_isHeld, Cond.initialized RX2]
def wsL_gate_r2 : List Cond := [Cond.code yX2_isHeld cX2_isHeld 1 (some .boolean), Cond.fieldLink RX2 34 "StakeWeirs$Weir" "owed" "I"]
def wsL_gate : List Cond := .codeWith yL_gate cL_gate 4 (some .int) [(0, 16, 19, 21), (0, 16, 22, 15)] :: ((wsL_gate_r1 ++ wsL_gate_r2) ++ wsX30 ++ wsX20 ++ wsX10 ++ (vx_atS RX3 51 "java/lang/IndexOutOfBoundsException" ["java/lang/RuntimeException", "java/lang/Exception"]).filter goodWord ++ (vx_atS RX3 38 "java/lang/IllegalStateException" ["java/lang/RuntimeException", "java/lang/Exception"]).filter goodWord)
def wsL_mend_r1 : List Cond := [Cond.classLink RL 21 "java/lang/IndexOutOfBoundsException", Cond.classLink RL 13 "java/lang/IllegalArgumentException", Cond.classLink RL 15 "java/lang/IllegalStateException", Cond.methodLink RL 23 yX3_mend, Cond.instanceMethod yX3_mend, Cond.selects RX3 yX3_mend yX3_mend, Cond.initialized RX3, Cond.code yX3_mend cX3_mend 5 (some .int), Cond.classLink RX3 47 "java/lang/IndexOutOfBoundsException", Cond.initialized "java/lang/IndexOutOfBoundsException", Cond.classLink RX3 23 "java/lang/IllegalArgumentException", Cond.initialized "java/lang/IllegalArgumentException", Cond.classLink RX3 34 "java/lang/IllegalStateException", Cond.initialized "java/lang/IllegalStateException", Cond.fieldLink RX3 12 "StakeWeirs" "now" "LStakeWeirs$Estuary;", Cond.fieldLink RX3 66 "StakeWeirs$Weir" "wattle" "I", Cond.fieldLink RX3 69 "StakeWeirs$Weir" "coins" "I", Cond.methodLink RX3 43 yX1_weirAt, Cond.instanceMethod yX1_weirAt, Cond.selects RX1 yX1_weirAt yX1_weirAt, Cond.initialized RX1, Cond.code yX1_weirAt cX1_weirAt 3 (some (.object "StakeWeirs$Weir")), Cond.fieldLink RX1 39 "StakeWeirs$Estuary" "weirCount" "I", Cond.fieldLink RX1 20 "StakeWeirs$Estuary" "weirs" "[LStakeWeirs$Weir;"]
def wsL_mend_r2 : List Cond := [Cond.methodLink RX3 19 yX3_isWithin, Cond.static yX3_isWithin, Cond.code yX3_isWithin cX3_isWithin 3 (some .boolean), Cond.methodLink RX3 52 yX2_isHeld, Cond.instanceMethod yX2_isHeld, Cond.selects RX2 yX2_isHeld yX2_isHeld, Cond.initialized RX2, Cond.code yX2_isHeld cX2_isHeld 1 (some .boolean), Cond.fieldLink RX2 34 "StakeWeirs$Weir" "owed" "I"]
def wsL_mend : List Cond := .codeWith yL_mend cL_mend 5 (some .int) [(0, 10, 13, 21), (0, 10, 17, 13), (0, 10, 21, 15)] :: ((wsL_mend_r1 ++ wsL_mend_r2) ++ wsX30 ++ wsX20 ++ wsX10 ++ (vx_atS RX3 51 "java/lang/IndexOutOfBoundsException" ["java/lang/RuntimeException", "java/lang/Exception"]).filter goodWord ++ (vx_atS RX3 27 "java/lang/IllegalArgumentException" ["java/lang/RuntimeException", "java/lang/Exception"]).filter goodWord ++ (vx_atS RX3 38 "java/lang/IllegalStateException" ["java/lang/RuntimeException", "java/lang/Exception"]).filter goodWord)
def wsL_drive_r1 : List Cond := [Cond.classLink RL 21 "java/lang/IndexOutOfBoundsException", Cond.classLink RL 13 "java/lang/IllegalArgumentException", Cond.classLink RL 15 "java/lang/IllegalStateException", Cond.methodLink RL 27 yX3_drive, Cond.instanceMethod yX3_drive, Cond.selects RX3 yX3_drive yX3_drive, Cond.initialized RX3, Cond.code yX3_drive cX3_drive 5 (some .int), Cond.classLink RX3 47 "java/lang/IndexOutOfBoundsException", Cond.initialized "java/lang/IndexOutOfBoundsException", Cond.classLink RX3 23 "java/lang/IllegalArgumentException", Cond.initialized "java/lang/IllegalArgumentException", Cond.classLink RX3 34 "java/lang/IllegalStateException", Cond.initialized "java/lang/IllegalStateException", Cond.fieldLink RX3 12 "StakeWeirs" "now" "LStakeWeirs$Estuary;", Cond.fieldLink RX3 76 "StakeWeirs$Weir" "stakes" "I", Cond.fieldLink RX3 69 "StakeWeirs$Weir" "coins" "I", Cond.methodLink RX3 43 yX1_weirAt, Cond.instanceMethod yX1_weirAt, Cond.selects RX1 yX1_weirAt yX1_weirAt, Cond.initialized RX1, Cond.code yX1_weirAt cX1_weirAt 3 (some (.object "StakeWeirs$Weir")), Cond.fieldLink RX1 39 "StakeWeirs$Estuary" "weirCount" "I", Cond.fieldLink RX1 20 "StakeWeirs$Estuary" "weirs" "[LStakeWeirs$Weir;"]
def wsL_drive_r2 : List Cond := [Cond.methodLink RX3 19 yX3_isWithin, Cond.static yX3_isWithin, Cond.code yX3_isWithin cX3_isWithin 3 (some .boolean), Cond.methodLink RX3 52 yX2_isHeld, Cond.instanceMethod yX2_isHeld, Cond.selects RX2 yX2_isHeld yX2_isHeld, Cond.initialized RX2, Cond.code yX2_isHeld cX2_isHeld 1 (some .boolean), Cond.fieldLink RX2 34 "StakeWeirs$Weir" "owed" "I"]
def wsL_drive : List Cond := .codeWith yL_drive cL_drive 5 (some .int) [(0, 10, 13, 21), (0, 10, 17, 13), (0, 10, 21, 15)] :: ((wsL_drive_r1 ++ wsL_drive_r2) ++ wsX30 ++ wsX20 ++ wsX10 ++ (vx_atS RX3 51 "java/lang/IndexOutOfBoundsException" ["java/lang/RuntimeException", "java/lang/Exception"]).filter goodWord ++ (vx_atS RX3 27 "java/lang/IllegalArgumentException" ["java/lang/RuntimeException", "java/lang/Exception"]).filter goodWord ++ (vx_atS RX3 38 "java/lang/IllegalStateException" ["java/lang/RuntimeException", "java/lang/Exception"]).filter goodWord)
def wsL_sell_r1 : List Cond := [Cond.classLink RL 21 "java/lang/IndexOutOfBoundsException", Cond.classLink RL 15 "java/lang/IllegalStateException", Cond.methodLink RL 30 yX3_sell, Cond.instanceMethod yX3_sell, Cond.selects RX3 yX3_sell yX3_sell, Cond.initialized RX3, Cond.code yX3_sell cX3_sell 4 (some .int), Cond.classLink RX3 47 "java/lang/IndexOutOfBoundsException", Cond.initialized "java/lang/IndexOutOfBoundsException", Cond.classLink RX3 34 "java/lang/IllegalStateException", Cond.initialized "java/lang/IllegalStateException", Cond.fieldLink RX3 12 "StakeWeirs" "now" "LStakeWeirs$Estuary;", Cond.fieldLink RX3 81 "StakeWeirs$Weir" "eels" "I", Cond.fieldLink RX3 69 "StakeWeirs$Weir" "coins" "I", Cond.methodLink RX3 43 yX1_weirAt, Cond.instanceMethod yX1_weirAt, Cond.selects RX1 yX1_weirAt yX1_weirAt, Cond.initialized RX1, Cond.code yX1_weirAt cX1_weirAt 3 (some (.object "StakeWeirs$Weir")), Cond.fieldLink RX1 39 "StakeWeirs$Estuary" "weirCount" "I", Cond.fieldLink RX1 20 "StakeWeirs$Estuary" "weirs" "[LStakeWeirs$Weir;", Cond.methodLink RX3 52 yX2_isHeld, Cond.instanceMethod yX2_isHeld, Cond.selects RX2 yX2_isHeld yX2_isHeld]
def wsL_sell_r2 : List Cond := [Cond.initialized RX2, Cond.code yX2_isHeld cX2_isHeld 1 (some .boolean), Cond.fieldLink RX2 34 "StakeWeirs$Weir" "owed" "I", Cond.methodLink RX3 86 yX1_moon, Cond.instanceMethod yX1_moon, Cond.selects RX1 yX1_moon yX1_moon, Cond.code yX1_moon cX1_moon 2 (some .int), Cond.fieldLink RX1 62 "StakeWeirs$Estuary" "night" "I", Cond.methodLink RX1 101 yJ9_floorMod_7cf53, Cond.static yJ9_floorMod_7cf53, Cond.initialized RJ9, Cond.code yJ9_floorMod_7cf53 cJ9_floorMod_7cf53 3 (some .int), Cond.methodLink RX3 90 yX3_priceOfEels, Cond.static yX3_priceOfEels, Cond.code yX3_priceOfEels cX3_priceOfEels 2 (some .int)]
def wsL_sell : List Cond := .codeWith yL_sell cL_sell 4 (some .int) [(0, 9, 12, 21), (0, 9, 15, 15)] :: ((wsL_sell_r1 ++ wsL_sell_r2) ++ wsX30 ++ wsX20 ++ wsX10 ++ (vx_atS RX3 51 "java/lang/IndexOutOfBoundsException" ["java/lang/RuntimeException", "java/lang/Exception"]).filter goodWord ++ (vx_atS RX3 38 "java/lang/IllegalStateException" ["java/lang/RuntimeException", "java/lang/Exception"]).filter goodWord)
def wsL_setRun_r1 : List Cond := [Cond.classLink RL 21 "java/lang/IndexOutOfBoundsException", Cond.classLink RL 13 "java/lang/IllegalArgumentException", Cond.methodLink RL 34 yX3_setRun, Cond.instanceMethod yX3_setRun, Cond.selects RX3 yX3_setRun yX3_setRun, Cond.initialized RX3, Cond.code yX3_setRun cX3_setRun 4 (some .int), Cond.classLink RX3 47 "java/lang/IndexOutOfBoundsException", Cond.initialized "java/lang/IndexOutOfBoundsException", Cond.classLink RX3 23 "java/lang/IllegalArgumentException", Cond.initialized "java/lang/IllegalArgumentException", Cond.fieldLink RX3 12 "StakeWeirs" "now" "LStakeWeirs$Estuary;", Cond.methodLink RX3 19 yX3_isWithin, Cond.static yX3_isWithin, Cond.code yX3_isWithin cX3_isWithin 3 (some .boolean), Cond.methodLink RX3 98 yX1_tableEels, Cond.instanceMethod yX1_tableEels, Cond.selects RX1 yX1_tableEels yX1_tableEels, Cond.initialized RX1, Cond.code yX1_tableEels cX1_tableEels 2 (some .int), Cond.fieldLink RX1 9 "StakeWeirs$Estuary" "table" "[I", Cond.methodLink RX3 102 yX1_setTableEels, Cond.instanceMethod yX1_setTableEels, Cond.selects RX1 yX1_setTableEels yX1_setTableEels]
def wsL_setRun_r2 : List Cond := [Cond.code yX1_setTableEels cX1_setTableEels 3 none]
def wsL_setRun : List Cond := .codeWith yL_setRun cL_setRun 5 (some .int) [(0, 10, 13, 21), (0, 10, 17, 13)] :: ((wsL_setRun_r1 ++ wsL_setRun_r2) ++ wsX30 ++ wsX10 ++ (vx_atS RX3 51 "java/lang/IndexOutOfBoundsException" ["java/lang/RuntimeException", "java/lang/Exception"]).filter goodWord ++ (vx_atS RX3 27 "java/lang/IllegalArgumentException" ["java/lang/RuntimeException", "java/lang/Exception"]).filter goodWord)
def wsL_barge_r1 : List Cond := [Cond.classLink RL 13 "java/lang/IllegalArgumentException", Cond.classLink RL 15 "java/lang/IllegalStateException", Cond.methodLink RL 37 yX3_barge, Cond.instanceMethod yX3_barge, Cond.selects RX3 yX3_barge yX3_barge, Cond.initialized RX3, Cond.code yX3_barge cX3_barge 2 (some .int), Cond.classLink RX3 23 "java/lang/IllegalArgumentException", Cond.initialized "java/lang/IllegalArgumentException", Cond.classLink RX3 34 "java/lang/IllegalStateException", Cond.initialized "java/lang/IllegalStateException", Cond.fieldLink RX3 12 "StakeWeirs" "now" "LStakeWeirs$Estuary;", Cond.fieldLink RX3 108 "StakeWeirs$Estuary" "bargeCount" "I", Cond.methodLink RX3 19 yX3_isWithin, Cond.static yX3_isWithin, Cond.code yX3_isWithin cX3_isWithin 3 (some .boolean), Cond.methodLink RX3 113 yX1_addBarge, Cond.instanceMethod yX1_addBarge, Cond.selects RX1 yX1_addBarge yX1_addBarge, Cond.initialized RX1, Cond.code yX1_addBarge cX1_addBarge 4 (some .int), Cond.fieldLink RX1 51 "StakeWeirs$Estuary" "bargeCount" "I", Cond.fieldLink RX1 65 "StakeWeirs$Estuary" "arrived" "I", Cond.methodLink RX1 54 yX1_bargeAt]
def wsL_barge_r2 : List Cond := [Cond.instanceMethod yX1_bargeAt, Cond.selects RX1 yX1_bargeAt yX1_bargeAt, Cond.code yX1_bargeAt cX1_bargeAt 3 (some (.object "StakeWeirs$Barge")), Cond.fieldLink RX1 27 "StakeWeirs$Estuary" "barges" "[LStakeWeirs$Barge;", Cond.methodLink RX1 96 yX0_makeNew, Cond.instanceMethod yX0_makeNew, Cond.selects RX0 yX0_makeNew yX0_makeNew, Cond.initialized RX0, Cond.code yX0_makeNew cX0_makeNew 3 none, Cond.fieldLink RX0 9 "StakeWeirs$Barge" "ticket" "I", Cond.fieldLink RX0 15 "StakeWeirs$Barge" "wide" "I", Cond.fieldLink RX0 18 "StakeWeirs$Barge" "place" "I", Cond.fieldLink RX0 21 "StakeWeirs$Barge" "broken" "I"]
def wsL_barge : List Cond := .codeWith yL_barge cL_barge 4 (some .int) [(0, 9, 12, 13), (0, 9, 15, 15)] :: ((wsL_barge_r1 ++ wsL_barge_r2) ++ wsX30 ++ wsX10 ++ wsX00 ++ (vx_atS RX3 27 "java/lang/IllegalArgumentException" ["java/lang/RuntimeException", "java/lang/Exception"]).filter goodWord ++ (vx_atS RX3 38 "java/lang/IllegalStateException" ["java/lang/RuntimeException", "java/lang/Exception"]).filter goodWord)
def wsL_about_r1 : List Cond := [Cond.classLink RL 21 "java/lang/IndexOutOfBoundsException", Cond.methodLink RL 40 yX3_about, Cond.instanceMethod yX3_about, Cond.selects RX3 yX3_about yX3_about, Cond.initialized RX3, Cond.code yX3_about cX3_about 4 (some .int), Cond.classLink RX3 47 "java/lang/IndexOutOfBoundsException", Cond.initialized "java/lang/IndexOutOfBoundsException", Cond.fieldLink RX3 12 "StakeWeirs" "now" "LStakeWeirs$Estuary;", Cond.methodLink RX3 43 yX1_weirAt, Cond.instanceMethod yX1_weirAt, Cond.selects RX1 yX1_weirAt yX1_weirAt, Cond.initialized RX1, Cond.code yX1_weirAt cX1_weirAt 3 (some (.object "StakeWeirs$Weir")), Cond.fieldLink RX1 39 "StakeWeirs$Estuary" "weirCount" "I", Cond.fieldLink RX1 20 "StakeWeirs$Estuary" "weirs" "[LStakeWeirs$Weir;", Cond.methodLink RX3 19 yX3_isWithin, Cond.static yX3_isWithin, Cond.code yX3_isWithin cX3_isWithin 3 (some .boolean), Cond.methodLink RX3 118 yX2_fact, Cond.instanceMethod yX2_fact, Cond.selects RX2 yX2_fact yX2_fact, Cond.initialized RX2, Cond.code yX2_fact cX2_fact 2 (some .int)]
def wsL_about_r2 : List Cond := [Cond.fieldLink RX2 9 "StakeWeirs$Weir" "place" "I", Cond.fieldLink RX2 15 "StakeWeirs$Weir" "stakes" "I", Cond.fieldLink RX2 18 "StakeWeirs$Weir" "wattle" "I", Cond.fieldLink RX2 21 "StakeWeirs$Weir" "rent" "I", Cond.fieldLink RX2 24 "StakeWeirs$Weir" "coins" "I", Cond.fieldLink RX2 27 "StakeWeirs$Weir" "eels" "I", Cond.fieldLink RX2 30 "StakeWeirs$Weir" "open" "Z", Cond.fieldLink RX2 34 "StakeWeirs$Weir" "owed" "I"]
def wsL_about : List Cond := .codeWith yL_about cL_about 5 (some .int) [(0, 10, 13, 21)] :: ((wsL_about_r1 ++ wsL_about_r2) ++ wsX30 ++ wsX10 ++ wsX20 ++ (vx_atS RX3 51 "java/lang/IndexOutOfBoundsException" ["java/lang/RuntimeException", "java/lang/Exception"]).filter goodWord)
def wsL_told_r1 : List Cond := [Cond.classLink RL 21 "java/lang/IndexOutOfBoundsException", Cond.methodLink RL 43 yX3_told, Cond.instanceMethod yX3_told, Cond.selects RX3 yX3_told yX3_told, Cond.initialized RX3, Cond.code yX3_told cX3_told 4 (some .int), Cond.classLink RX3 47 "java/lang/IndexOutOfBoundsException", Cond.initialized "java/lang/IndexOutOfBoundsException", Cond.fieldLink RX3 12 "StakeWeirs" "now" "LStakeWeirs$Estuary;", Cond.methodLink RX3 121 yX1_bargeAt, Cond.instanceMethod yX1_bargeAt, Cond.selects RX1 yX1_bargeAt yX1_bargeAt, Cond.initialized RX1, Cond.code yX1_bargeAt cX1_bargeAt 3 (some (.object "StakeWeirs$Barge")), Cond.fieldLink RX1 51 "StakeWeirs$Estuary" "bargeCount" "I", Cond.fieldLink RX1 27 "StakeWeirs$Estuary" "barges" "[LStakeWeirs$Barge;", Cond.methodLink RX3 19 yX3_isWithin, Cond.static yX3_isWithin, Cond.code yX3_isWithin cX3_isWithin 3 (some .boolean), Cond.methodLink RX3 127 yX1_bargeFact, Cond.instanceMethod yX1_bargeFact, Cond.selects RX1 yX1_bargeFact yX1_bargeFact, Cond.code yX1_bargeFact cX1_bargeFact 3 (some .int), Cond.fieldLink RX1 120 "StakeWeirs$Barge" "wide" "I"]
def wsL_told_r2 : List Cond := [Cond.fieldLink RX1 123 "StakeWeirs$Barge" "place" "I", Cond.fieldLink RX1 124 "StakeWeirs$Barge" "broken" "I", Cond.methodLink RX1 127 yX1_nextInWay, Cond.instanceMethod yX1_nextInWay, Cond.selects RX1 yX1_nextInWay yX1_nextInWay, Cond.code yX1_nextInWay cX1_nextInWay 6 (some .int), Cond.fieldLink RX1 39 "StakeWeirs$Estuary" "weirCount" "I", Cond.fieldLink RX1 93 "StakeWeirs$Weir" "place" "I", Cond.methodLink RX1 43 yX1_weirAt, Cond.instanceMethod yX1_weirAt, Cond.selects RX1 yX1_weirAt yX1_weirAt, Cond.code yX1_weirAt cX1_weirAt 3 (some (.object "StakeWeirs$Weir")), Cond.fieldLink RX1 20 "StakeWeirs$Estuary" "weirs" "[LStakeWeirs$Weir;", Cond.methodLink RX1 141 yX2_isInWay, Cond.instanceMethod yX2_isInWay, Cond.selects RX2 yX2_isInWay yX2_isInWay, Cond.initialized RX2, Cond.code yX2_isInWay cX2_isInWay 2 (some .boolean), Cond.fieldLink RX2 15 "StakeWeirs$Weir" "stakes" "I", Cond.methodLink RX2 37 yX2_isFishing, Cond.instanceMethod yX2_isFishing, Cond.selects RX2 yX2_isFishing yX2_isFishing, Cond.code yX2_isFishing cX2_isFishing 1 (some .boolean), Cond.fieldLink RX2 34 "StakeWeirs$Weir" "owed" "I"]
def wsL_told_r3 : List Cond := [Cond.fieldLink RX2 30 "StakeWeirs$Weir" "open" "Z"]
def wsL_told : List Cond := .codeWith yL_told cL_told 5 (some .int) [(0, 10, 13, 21)] :: ((wsL_told_r1 ++ (wsL_told_r2 ++ wsL_told_r3)) ++ wsX30 ++ wsX10 ++ wsX00 ++ wsX20 ++ (vx_atS RX3 51 "java/lang/IndexOutOfBoundsException" ["java/lang/RuntimeException", "java/lang/Exception"]).filter goodWord)
def wsL_count_r1 : List Cond := [Cond.classLink RL 21 "java/lang/IndexOutOfBoundsException", Cond.methodLink RL 46 yX3_count, Cond.instanceMethod yX3_count, Cond.selects RX3 yX3_count yX3_count, Cond.initialized RX3, Cond.code yX3_count cX3_count 2 (some .int), Cond.classLink RX3 47 "java/lang/IndexOutOfBoundsException", Cond.initialized "java/lang/IndexOutOfBoundsException", Cond.fieldLink RX3 12 "StakeWeirs" "now" "LStakeWeirs$Estuary;", Cond.methodLink RX3 19 yX3_isWithin, Cond.static yX3_isWithin, Cond.code yX3_isWithin cX3_isWithin 3 (some .boolean), Cond.methodLink RX3 133 yX1_fact, Cond.instanceMethod yX1_fact, Cond.selects RX1 yX1_fact yX1_fact, Cond.initialized RX1, Cond.code yX1_fact cX1_fact 2 (some .int), Cond.fieldLink RX1 62 "StakeWeirs$Estuary" "night" "I", Cond.fieldLink RX1 39 "StakeWeirs$Estuary" "weirCount" "I", Cond.fieldLink RX1 51 "StakeWeirs$Estuary" "bargeCount" "I", Cond.fieldLink RX1 65 "StakeWeirs$Estuary" "arrived" "I", Cond.fieldLink RX1 68 "StakeWeirs$Estuary" "fines" "I", Cond.fieldLink RX1 71 "StakeWeirs$Estuary" "rents" "I", Cond.methodLink RX1 107 yX1_moon]
def wsL_count_r2 : List Cond := [Cond.instanceMethod yX1_moon, Cond.selects RX1 yX1_moon yX1_moon, Cond.code yX1_moon cX1_moon 2 (some .int), Cond.methodLink RX1 101 yJ9_floorMod_7cf53, Cond.static yJ9_floorMod_7cf53, Cond.initialized RJ9, Cond.code yJ9_floorMod_7cf53 cJ9_floorMod_7cf53 3 (some .int), Cond.methodLink RX1 111 yX1_run, Cond.instanceMethod yX1_run, Cond.selects RX1 yX1_run yX1_run, Cond.code yX1_run cX1_run 3 (some .int), Cond.methodLink RX1 32 yX1_tableEels, Cond.instanceMethod yX1_tableEels, Cond.selects RX1 yX1_tableEels yX1_tableEels, Cond.code yX1_tableEels cX1_tableEels 2 (some .int), Cond.fieldLink RX1 9 "StakeWeirs$Estuary" "table" "[I", Cond.methodLink RX1 114 yX1_heldWeirs, Cond.instanceMethod yX1_heldWeirs, Cond.selects RX1 yX1_heldWeirs yX1_heldWeirs, Cond.code yX1_heldWeirs cX1_heldWeirs 4 (some .int), Cond.methodLink RX1 43 yX1_weirAt, Cond.instanceMethod yX1_weirAt, Cond.selects RX1 yX1_weirAt yX1_weirAt, Cond.code yX1_weirAt cX1_weirAt 3 (some (.object "StakeWeirs$Weir"))]
def wsL_count_r3 : List Cond := [Cond.fieldLink RX1 20 "StakeWeirs$Estuary" "weirs" "[LStakeWeirs$Weir;", Cond.methodLink RX1 131 yX2_isHeld, Cond.instanceMethod yX2_isHeld, Cond.selects RX2 yX2_isHeld yX2_isHeld, Cond.initialized RX2, Cond.code yX2_isHeld cX2_isHeld 1 (some .boolean), Cond.fieldLink RX2 34 "StakeWeirs$Weir" "owed" "I", Cond.methodLink RX1 117 yX1_allEels, Cond.instanceMethod yX1_allEels, Cond.selects RX1 yX1_allEels yX1_allEels, Cond.code yX1_allEels cX1_allEels 4 (some .int), Cond.fieldLink RX1 138 "StakeWeirs$Weir" "eels" "I"]
def wsL_count : List Cond := .codeWith yL_count cL_count 4 (some .int) [(0, 9, 12, 21)] :: ((wsL_count_r1 ++ (wsL_count_r2 ++ wsL_count_r3)) ++ wsX30 ++ wsX10 ++ wsX20 ++ (vx_atS RX3 51 "java/lang/IndexOutOfBoundsException" ["java/lang/RuntimeException", "java/lang/Exception"]).filter goodWord)
def wsL_hinders_r1 : List Cond := [Cond.classLink RL 13 "java/lang/IllegalArgumentException", Cond.methodLink RL 49 yX3_hinders, Cond.instanceMethod yX3_hinders, Cond.selects RX3 yX3_hinders yX3_hinders, Cond.initialized RX3, Cond.code yX3_hinders cX3_hinders 2 (some .int), Cond.classLink RX3 23 "java/lang/IllegalArgumentException", Cond.initialized "java/lang/IllegalArgumentException", Cond.fieldLink RX3 12 "StakeWeirs" "now" "LStakeWeirs$Estuary;", Cond.methodLink RX3 19 yX3_isWithin, Cond.static yX3_isWithin, Cond.code yX3_isWithin cX3_isWithin 3 (some .boolean), Cond.methodLink RX3 134 yX1_weirsInWay, Cond.instanceMethod yX1_weirsInWay, Cond.selects RX1 yX1_weirsInWay yX1_weirsInWay, Cond.initialized RX1, Cond.code yX1_weirsInWay cX1_weirsInWay 5 (some .int), Cond.fieldLink RX1 39 "StakeWeirs$Estuary" "weirCount" "I", Cond.methodLink RX1 43 yX1_weirAt, Cond.instanceMethod yX1_weirAt, Cond.selects RX1 yX1_weirAt yX1_weirAt, Cond.code yX1_weirAt cX1_weirAt 3 (some (.object "StakeWeirs$Weir")), Cond.fieldLink RX1 20 "StakeWeirs$Estuary" "weirs" "[LStakeWeirs$Weir;", Cond.methodLink RX1 141 yX2_isInWay]
def wsL_hinders_r2 : List Cond := [Cond.instanceMethod yX2_isInWay, Cond.selects RX2 yX2_isInWay yX2_isInWay, Cond.initialized RX2, Cond.code yX2_isInWay cX2_isInWay 2 (some .boolean), Cond.fieldLink RX2 15 "StakeWeirs$Weir" "stakes" "I", Cond.methodLink RX2 37 yX2_isFishing, Cond.instanceMethod yX2_isFishing, Cond.selects RX2 yX2_isFishing yX2_isFishing, Cond.code yX2_isFishing cX2_isFishing 1 (some .boolean), Cond.fieldLink RX2 34 "StakeWeirs$Weir" "owed" "I", Cond.fieldLink RX2 30 "StakeWeirs$Weir" "open" "Z"]
def wsL_hinders : List Cond := .codeWith yL_hinders cL_hinders 4 (some .int) [(0, 9, 12, 13)] :: ((wsL_hinders_r1 ++ wsL_hinders_r2) ++ wsX30 ++ wsX10 ++ wsX20 ++ (vx_atS RX3 27 "java/lang/IllegalArgumentException" ["java/lang/RuntimeException", "java/lang/Exception"]).filter goodWord)
def wsL_pass_r1 : List Cond := [Cond.classLink RL 13 "java/lang/IllegalArgumentException", Cond.methodLink RL 52 yX3_pass, Cond.instanceMethod yX3_pass, Cond.selects RX3 yX3_pass yX3_pass, Cond.initialized RX3, Cond.code yX3_pass cX3_pass 3 (some .int), Cond.classLink RX3 23 "java/lang/IllegalArgumentException", Cond.initialized "java/lang/IllegalArgumentException", Cond.fieldLink RX3 12 "StakeWeirs" "now" "LStakeWeirs$Estuary;", Cond.fieldLink RX3 142 "StakeWeirs$Estuary" "arrived" "I", Cond.methodLink RX3 19 yX3_isWithin, Cond.static yX3_isWithin, Cond.code yX3_isWithin cX3_isWithin 3 (some .boolean), Cond.methodLink RX3 145 yX1_goThroughNights, Cond.instanceMethod yX1_goThroughNights, Cond.selects RX1 yX1_goThroughNights yX1_goThroughNights, Cond.initialized RX1, Cond.code yX1_goThroughNights cX1_goThroughNights 3 none, Cond.fieldLink RX1 62 "StakeWeirs$Estuary" "night" "I", Cond.methodLink RX1 148 yX1_catchEels, Cond.instanceMethod yX1_catchEels, Cond.selects RX1 yX1_catchEels yX1_catchEels, Cond.code yX1_catchEels cX1_catchEels 4 none, Cond.fieldLink RX1 39 "StakeWeirs$Estuary" "weirCount" "I"]
def wsL_pass_r2 : List Cond := [Cond.methodLink RX1 111 yX1_run, Cond.instanceMethod yX1_run, Cond.selects RX1 yX1_run yX1_run, Cond.code yX1_run cX1_run 3 (some .int), Cond.methodLink RX1 101 yJ9_floorMod_7cf53, Cond.static yJ9_floorMod_7cf53, Cond.initialized RJ9, Cond.code yJ9_floorMod_7cf53 cJ9_floorMod_7cf53 3 (some .int), Cond.methodLink RX1 32 yX1_tableEels, Cond.instanceMethod yX1_tableEels, Cond.selects RX1 yX1_tableEels yX1_tableEels, Cond.code yX1_tableEels cX1_tableEels 2 (some .int), Cond.fieldLink RX1 9 "StakeWeirs$Estuary" "table" "[I", Cond.methodLink RX1 107 yX1_moon, Cond.instanceMethod yX1_moon, Cond.selects RX1 yX1_moon yX1_moon, Cond.code yX1_moon cX1_moon 2 (some .int), Cond.methodLink RX1 36 yX1_inOrder, Cond.instanceMethod yX1_inOrder, Cond.selects RX1 yX1_inOrder yX1_inOrder, Cond.code yX1_inOrder cX1_inOrder 2 (some .int), Cond.fieldLink RX1 15 "StakeWeirs$Estuary" "order" "[I", Cond.methodLink RX1 43 yX1_weirAt, Cond.instanceMethod yX1_weirAt]
def wsL_pass_r3 : List Cond := [Cond.selects RX1 yX1_weirAt yX1_weirAt, Cond.code yX1_weirAt cX1_weirAt 3 (some (.object "StakeWeirs$Weir")), Cond.fieldLink RX1 20 "StakeWeirs$Estuary" "weirs" "[LStakeWeirs$Weir;", Cond.methodLink RX1 163 yX2_isFishing, Cond.instanceMethod yX2_isFishing, Cond.selects RX2 yX2_isFishing yX2_isFishing, Cond.initialized RX2, Cond.code yX2_isFishing cX2_isFishing 1 (some .boolean), Cond.fieldLink RX2 34 "StakeWeirs$Weir" "owed" "I", Cond.fieldLink RX2 30 "StakeWeirs$Weir" "open" "Z", Cond.methodLink RX1 166 yX2_catchOf, Cond.instanceMethod yX2_catchOf, Cond.selects RX2 yX2_catchOf yX2_catchOf, Cond.code yX2_catchOf cX2_catchOf 3 (some .int), Cond.fieldLink RX2 15 "StakeWeirs$Weir" "stakes" "I", Cond.fieldLink RX2 18 "StakeWeirs$Weir" "wattle" "I", Cond.fieldLink RX2 27 "StakeWeirs$Weir" "eels" "I", Cond.methodLink RX2 41 Lib.Math.min.name, Cond.static Lib.Math.min.name, Cond.initialized "java/lang/Math", Cond.code Lib.Math.min.name Lib.Math.min.code 2 (some .int), Cond.methodLink RX1 151 yX1_moveBarges, Cond.instanceMethod yX1_moveBarges, Cond.selects RX1 yX1_moveBarges yX1_moveBarges]
def wsL_pass_r4 : List Cond := [Cond.code yX1_moveBarges cX1_moveBarges 4 none, Cond.fieldLink RX1 51 "StakeWeirs$Estuary" "bargeCount" "I", Cond.fieldLink RX1 93 "StakeWeirs$Weir" "place" "I", Cond.methodLink RX1 54 yX1_bargeAt, Cond.instanceMethod yX1_bargeAt, Cond.selects RX1 yX1_bargeAt yX1_bargeAt, Cond.code yX1_bargeAt cX1_bargeAt 3 (some (.object "StakeWeirs$Barge")), Cond.fieldLink RX1 27 "StakeWeirs$Estuary" "barges" "[LStakeWeirs$Barge;", Cond.methodLink RX1 127 yX1_nextInWay, Cond.instanceMethod yX1_nextInWay, Cond.selects RX1 yX1_nextInWay yX1_nextInWay, Cond.code yX1_nextInWay cX1_nextInWay 6 (some .int), Cond.fieldLink RX1 123 "StakeWeirs$Barge" "place" "I", Cond.fieldLink RX1 120 "StakeWeirs$Barge" "wide" "I", Cond.methodLink RX1 141 yX2_isInWay, Cond.instanceMethod yX2_isInWay, Cond.selects RX2 yX2_isInWay yX2_isInWay, Cond.code yX2_isInWay cX2_isInWay 2 (some .boolean), Cond.methodLink RX2 37 yX2_isFishing, Cond.methodLink RX1 169 yX0_goOn, Cond.instanceMethod yX0_goOn, Cond.selects RX0 yX0_goOn yX0_goOn, Cond.initialized RX0, Cond.code yX0_goOn cX0_goOn 2 none]
def wsL_pass_r5 : List Cond := [Cond.fieldLink RX0 18 "StakeWeirs$Barge" "place" "I", Cond.methodLink RX0 24 Lib.Math.min.name, Cond.methodLink RX1 173 yX1_breakThrough, Cond.instanceMethod yX1_breakThrough, Cond.selects RX1 yX1_breakThrough yX1_breakThrough, Cond.code yX1_breakThrough cX1_breakThrough 4 none, Cond.fieldLink RX1 68 "StakeWeirs$Estuary" "fines" "I", Cond.fieldLink RX1 124 "StakeWeirs$Barge" "broken" "I", Cond.methodLink RX1 176 yX2_breakFor, Cond.instanceMethod yX2_breakFor, Cond.selects RX2 yX2_breakFor yX2_breakFor, Cond.code yX2_breakFor cX2_breakFor 3 (some .int), Cond.fieldLink RX2 24 "StakeWeirs$Weir" "coins" "I", Cond.methodLink RX2 47 yX2_loseWattle, Cond.instanceMethod yX2_loseWattle, Cond.selects RX2 yX2_loseWattle yX2_loseWattle, Cond.code yX2_loseWattle cX2_loseWattle 2 none, Cond.methodLink RX1 154 yX1_leaveOutArrived, Cond.instanceMethod yX1_leaveOutArrived, Cond.selects RX1 yX1_leaveOutArrived yX1_leaveOutArrived, Cond.code yX1_leaveOutArrived cX1_leaveOutArrived 4 none, Cond.fieldLink RX1 65 "StakeWeirs$Estuary" "arrived" "I", Cond.methodLink RX1 58 yX1_copyBarge, Cond.static yX1_copyBarge]
def wsL_pass_r6 : List Cond := [Cond.code yX1_copyBarge cX1_copyBarge 2 none, Cond.methodLink RX1 78 yX0_copyFrom, Cond.instanceMethod yX0_copyFrom, Cond.selects RX0 yX0_copyFrom yX0_copyFrom, Cond.code yX0_copyFrom cX0_copyFrom 2 none, Cond.fieldLink RX0 9 "StakeWeirs$Barge" "ticket" "I", Cond.fieldLink RX0 15 "StakeWeirs$Barge" "wide" "I", Cond.fieldLink RX0 21 "StakeWeirs$Barge" "broken" "I", Cond.methodLink RX1 157 yX1_rotWattle, Cond.instanceMethod yX1_rotWattle, Cond.selects RX1 yX1_rotWattle yX1_rotWattle, Cond.code yX1_rotWattle cX1_rotWattle 4 none, Cond.methodLink RX1 131 yX2_isHeld, Cond.instanceMethod yX2_isHeld, Cond.selects RX2 yX2_isHeld yX2_isHeld, Cond.code yX2_isHeld cX2_isHeld 1 (some .boolean), Cond.methodLink RX1 179 yX2_loseWattle, Cond.methodLink RX1 160 yX1_collectRents, Cond.instanceMethod yX1_collectRents, Cond.selects RX1 yX1_collectRents yX1_collectRents, Cond.code yX1_collectRents cX1_collectRents 3 none, Cond.fieldLink RX1 71 "StakeWeirs$Estuary" "rents" "I", Cond.methodLink RX1 182 yX2_payRent, Cond.instanceMethod yX2_payRent]
def wsL_pass_r7 : List Cond := [Cond.selects RX2 yX2_payRent yX2_payRent, Cond.code yX2_payRent cX2_payRent 1 (some .int), Cond.fieldLink RX2 21 "StakeWeirs$Weir" "rent" "I"]
def wsL_pass : List Cond := .codeWith yL_pass cL_pass 4 (some .int) [(0, 9, 12, 13)] :: ((wsL_pass_r1 ++ (wsL_pass_r2 ++ (wsL_pass_r3 ++ (wsL_pass_r4 ++ (wsL_pass_r5 ++ (wsL_pass_r6 ++ wsL_pass_r7)))))) ++ wsX30 ++ wsX10 ++ wsX20 ++ wsX00 ++ (vx_atS RX3 27 "java/lang/IllegalArgumentException" ["java/lang/RuntimeException", "java/lang/Exception"]).filter goodWord)
def wsL_catches_r1 : List Cond := [Cond.classLink RL 21 "java/lang/IndexOutOfBoundsException", Cond.methodLink RL 55 yX3_catches, Cond.instanceMethod yX3_catches, Cond.selects RX3 yX3_catches yX3_catches, Cond.initialized RX3, Cond.code yX3_catches cX3_catches 4 (some .int), Cond.classLink RX3 47 "java/lang/IndexOutOfBoundsException", Cond.initialized "java/lang/IndexOutOfBoundsException", Cond.fieldLink RX3 12 "StakeWeirs" "now" "LStakeWeirs$Estuary;", Cond.fieldLink RX3 16 "StakeWeirs" "trial" "LStakeWeirs$Estuary;", Cond.fieldLink RX3 81 "StakeWeirs$Weir" "eels" "I", Cond.methodLink RX3 43 yX1_weirAt, Cond.instanceMethod yX1_weirAt, Cond.selects RX1 yX1_weirAt yX1_weirAt, Cond.initialized RX1, Cond.code yX1_weirAt cX1_weirAt 3 (some (.object "StakeWeirs$Weir")), Cond.fieldLink RX1 39 "StakeWeirs$Estuary" "weirCount" "I", Cond.fieldLink RX1 20 "StakeWeirs$Estuary" "weirs" "[LStakeWeirs$Weir;", Cond.methodLink RX3 149 yX1_copyFrom, Cond.instanceMethod yX1_copyFrom, Cond.selects RX1 yX1_copyFrom yX1_copyFrom, Cond.code yX1_copyFrom cX1_copyFrom 3 none, Cond.fieldLink RX1 9 "StakeWeirs$Estuary" "table" "[I", Cond.fieldLink RX1 15 "StakeWeirs$Estuary" "order" "[I"]
def wsL_catches_r2 : List Cond := [Cond.fieldLink RX1 51 "StakeWeirs$Estuary" "bargeCount" "I", Cond.fieldLink RX1 62 "StakeWeirs$Estuary" "night" "I", Cond.fieldLink RX1 65 "StakeWeirs$Estuary" "arrived" "I", Cond.fieldLink RX1 68 "StakeWeirs$Estuary" "fines" "I", Cond.fieldLink RX1 71 "StakeWeirs$Estuary" "rents" "I", Cond.methodLink RX1 32 yX1_tableEels, Cond.instanceMethod yX1_tableEels, Cond.selects RX1 yX1_tableEels yX1_tableEels, Cond.code yX1_tableEels cX1_tableEels 2 (some .int), Cond.methodLink RX1 36 yX1_inOrder, Cond.instanceMethod yX1_inOrder, Cond.selects RX1 yX1_inOrder yX1_inOrder, Cond.code yX1_inOrder cX1_inOrder 2 (some .int), Cond.methodLink RX1 43 yX1_weirAt, Cond.methodLink RX1 47 yX1_copyWeir, Cond.static yX1_copyWeir, Cond.code yX1_copyWeir cX1_copyWeir 2 none, Cond.methodLink RX1 74 yX2_copyFrom, Cond.instanceMethod yX2_copyFrom, Cond.selects RX2 yX2_copyFrom yX2_copyFrom, Cond.initialized RX2, Cond.code yX2_copyFrom cX2_copyFrom 2 none, Cond.fieldLink RX2 9 "StakeWeirs$Weir" "place" "I", Cond.fieldLink RX2 15 "StakeWeirs$Weir" "stakes" "I"]
def wsL_catches_r3 : List Cond := [Cond.fieldLink RX2 18 "StakeWeirs$Weir" "wattle" "I", Cond.fieldLink RX2 21 "StakeWeirs$Weir" "rent" "I", Cond.fieldLink RX2 24 "StakeWeirs$Weir" "coins" "I", Cond.fieldLink RX2 27 "StakeWeirs$Weir" "eels" "I", Cond.fieldLink RX2 30 "StakeWeirs$Weir" "open" "Z", Cond.fieldLink RX2 34 "StakeWeirs$Weir" "owed" "I", Cond.methodLink RX1 54 yX1_bargeAt, Cond.instanceMethod yX1_bargeAt, Cond.selects RX1 yX1_bargeAt yX1_bargeAt, Cond.code yX1_bargeAt cX1_bargeAt 3 (some (.object "StakeWeirs$Barge")), Cond.fieldLink RX1 27 "StakeWeirs$Estuary" "barges" "[LStakeWeirs$Barge;", Cond.methodLink RX1 58 yX1_copyBarge, Cond.static yX1_copyBarge, Cond.code yX1_copyBarge cX1_copyBarge 2 none, Cond.methodLink RX1 78 yX0_copyFrom, Cond.instanceMethod yX0_copyFrom, Cond.selects RX0 yX0_copyFrom yX0_copyFrom, Cond.initialized RX0, Cond.code yX0_copyFrom cX0_copyFrom 2 none, Cond.fieldLink RX0 9 "StakeWeirs$Barge" "ticket" "I", Cond.fieldLink RX0 15 "StakeWeirs$Barge" "wide" "I", Cond.fieldLink RX0 18 "StakeWeirs$Barge" "place" "I", Cond.fieldLink RX0 21 "StakeWeirs$Barge" "broken" "I", Cond.methodLink RX3 153 yX1_catchEels]
def wsL_catches_r4 : List Cond := [Cond.instanceMethod yX1_catchEels, Cond.selects RX1 yX1_catchEels yX1_catchEels, Cond.code yX1_catchEels cX1_catchEels 4 none, Cond.methodLink RX1 111 yX1_run, Cond.instanceMethod yX1_run, Cond.selects RX1 yX1_run yX1_run, Cond.code yX1_run cX1_run 3 (some .int), Cond.methodLink RX1 101 yJ9_floorMod_7cf53, Cond.static yJ9_floorMod_7cf53, Cond.initialized RJ9, Cond.code yJ9_floorMod_7cf53 cJ9_floorMod_7cf53 3 (some .int), Cond.methodLink RX1 107 yX1_moon, Cond.instanceMethod yX1_moon, Cond.selects RX1 yX1_moon yX1_moon, Cond.code yX1_moon cX1_moon 2 (some .int), Cond.methodLink RX1 163 yX2_isFishing, Cond.instanceMethod yX2_isFishing, Cond.selects RX2 yX2_isFishing yX2_isFishing, Cond.code yX2_isFishing cX2_isFishing 1 (some .boolean), Cond.methodLink RX1 166 yX2_catchOf, Cond.instanceMethod yX2_catchOf, Cond.selects RX2 yX2_catchOf yX2_catchOf, Cond.code yX2_catchOf cX2_catchOf 3 (some .int), Cond.methodLink RX2 41 Lib.Math.min.name]
def wsL_catches_r5 : List Cond := [Cond.static Lib.Math.min.name, Cond.initialized "java/lang/Math", Cond.code Lib.Math.min.name Lib.Math.min.code 2 (some .int)]
def wsL_catches : List Cond := .codeWith yL_catches cL_catches 4 (some .int) [(0, 9, 12, 21)] :: ((wsL_catches_r1 ++ (wsL_catches_r2 ++ (wsL_catches_r3 ++ (wsL_catches_r4 ++ wsL_catches_r5)))) ++ wsX30 ++ wsX20 ++ wsX10 ++ wsX00 ++ (vx_atS RX3 51 "java/lang/IndexOutOfBoundsException" ["java/lang/RuntimeException", "java/lang/Exception"]).filter goodWord)
def wsL_arrives_r1 : List Cond := [Cond.classLink RL 21 "java/lang/IndexOutOfBoundsException", Cond.methodLink RL 58 yX3_arrives, Cond.instanceMethod yX3_arrives, Cond.selects RX3 yX3_arrives yX3_arrives, Cond.initialized RX3, Cond.code yX3_arrives cX3_arrives 4 (some .int), Cond.classLink RX3 47 "java/lang/IndexOutOfBoundsException", Cond.initialized "java/lang/IndexOutOfBoundsException", Cond.fieldLink RX3 12 "StakeWeirs" "now" "LStakeWeirs$Estuary;", Cond.fieldLink RX3 16 "StakeWeirs" "trial" "LStakeWeirs$Estuary;", Cond.fieldLink RX3 158 "StakeWeirs$Barge" "ticket" "I", Cond.methodLink RX3 121 yX1_bargeAt, Cond.instanceMethod yX1_bargeAt, Cond.selects RX1 yX1_bargeAt yX1_bargeAt, Cond.initialized RX1, Cond.code yX1_bargeAt cX1_bargeAt 3 (some (.object "StakeWeirs$Barge")), Cond.fieldLink RX1 51 "StakeWeirs$Estuary" "bargeCount" "I", Cond.fieldLink RX1 27 "StakeWeirs$Estuary" "barges" "[LStakeWeirs$Barge;", Cond.methodLink RX3 149 yX1_copyFrom, Cond.instanceMethod yX1_copyFrom, Cond.selects RX1 yX1_copyFrom yX1_copyFrom, Cond.code yX1_copyFrom cX1_copyFrom 3 none, Cond.fieldLink RX1 9 "StakeWeirs$Estuary" "table" "[I", Cond.fieldLink RX1 15 "StakeWeirs$Estuary" "order" "[I"]
def wsL_arrives_r2 : List Cond := [Cond.fieldLink RX1 39 "StakeWeirs$Estuary" "weirCount" "I", Cond.fieldLink RX1 62 "StakeWeirs$Estuary" "night" "I", Cond.fieldLink RX1 65 "StakeWeirs$Estuary" "arrived" "I", Cond.fieldLink RX1 68 "StakeWeirs$Estuary" "fines" "I", Cond.fieldLink RX1 71 "StakeWeirs$Estuary" "rents" "I", Cond.methodLink RX1 32 yX1_tableEels, Cond.instanceMethod yX1_tableEels, Cond.selects RX1 yX1_tableEels yX1_tableEels, Cond.code yX1_tableEels cX1_tableEels 2 (some .int), Cond.methodLink RX1 36 yX1_inOrder, Cond.instanceMethod yX1_inOrder, Cond.selects RX1 yX1_inOrder yX1_inOrder, Cond.code yX1_inOrder cX1_inOrder 2 (some .int), Cond.methodLink RX1 43 yX1_weirAt, Cond.instanceMethod yX1_weirAt, Cond.selects RX1 yX1_weirAt yX1_weirAt, Cond.code yX1_weirAt cX1_weirAt 3 (some (.object "StakeWeirs$Weir")), Cond.fieldLink RX1 20 "StakeWeirs$Estuary" "weirs" "[LStakeWeirs$Weir;", Cond.methodLink RX1 47 yX1_copyWeir, Cond.static yX1_copyWeir, Cond.code yX1_copyWeir cX1_copyWeir 2 none, Cond.methodLink RX1 74 yX2_copyFrom, Cond.instanceMethod yX2_copyFrom, Cond.selects RX2 yX2_copyFrom yX2_copyFrom]
def wsL_arrives_r3 : List Cond := [Cond.initialized RX2, Cond.code yX2_copyFrom cX2_copyFrom 2 none, Cond.fieldLink RX2 9 "StakeWeirs$Weir" "place" "I", Cond.fieldLink RX2 15 "StakeWeirs$Weir" "stakes" "I", Cond.fieldLink RX2 18 "StakeWeirs$Weir" "wattle" "I", Cond.fieldLink RX2 21 "StakeWeirs$Weir" "rent" "I", Cond.fieldLink RX2 24 "StakeWeirs$Weir" "coins" "I", Cond.fieldLink RX2 27 "StakeWeirs$Weir" "eels" "I", Cond.fieldLink RX2 30 "StakeWeirs$Weir" "open" "Z", Cond.fieldLink RX2 34 "StakeWeirs$Weir" "owed" "I", Cond.methodLink RX1 54 yX1_bargeAt, Cond.methodLink RX1 58 yX1_copyBarge, Cond.static yX1_copyBarge, Cond.code yX1_copyBarge cX1_copyBarge 2 none, Cond.methodLink RX1 78 yX0_copyFrom, Cond.instanceMethod yX0_copyFrom, Cond.selects RX0 yX0_copyFrom yX0_copyFrom, Cond.initialized RX0, Cond.code yX0_copyFrom cX0_copyFrom 2 none, Cond.fieldLink RX0 9 "StakeWeirs$Barge" "ticket" "I", Cond.fieldLink RX0 15 "StakeWeirs$Barge" "wide" "I", Cond.fieldLink RX0 18 "StakeWeirs$Barge" "place" "I", Cond.fieldLink RX0 21 "StakeWeirs$Barge" "broken" "I", Cond.methodLink RX3 163 yX1_isUnderWay]
def wsL_arrives_r4 : List Cond := [Cond.instanceMethod yX1_isUnderWay, Cond.selects RX1 yX1_isUnderWay yX1_isUnderWay, Cond.code yX1_isUnderWay cX1_isUnderWay 4 (some .boolean), Cond.fieldLink RX1 98 "StakeWeirs$Barge" "ticket" "I", Cond.methodLink RX3 145 yX1_goThroughNights, Cond.instanceMethod yX1_goThroughNights, Cond.selects RX1 yX1_goThroughNights yX1_goThroughNights, Cond.code yX1_goThroughNights cX1_goThroughNights 3 none, Cond.methodLink RX1 148 yX1_catchEels, Cond.instanceMethod yX1_catchEels, Cond.selects RX1 yX1_catchEels yX1_catchEels, Cond.code yX1_catchEels cX1_catchEels 4 none, Cond.methodLink RX1 111 yX1_run, Cond.instanceMethod yX1_run, Cond.selects RX1 yX1_run yX1_run, Cond.code yX1_run cX1_run 3 (some .int), Cond.methodLink RX1 101 yJ9_floorMod_7cf53, Cond.static yJ9_floorMod_7cf53, Cond.initialized RJ9, Cond.code yJ9_floorMod_7cf53 cJ9_floorMod_7cf53 3 (some .int), Cond.methodLink RX1 107 yX1_moon, Cond.instanceMethod yX1_moon, Cond.selects RX1 yX1_moon yX1_moon, Cond.code yX1_moon cX1_moon 2 (some .int)]
def wsL_arrives_r5 : List Cond := [Cond.methodLink RX1 163 yX2_isFishing, Cond.instanceMethod yX2_isFishing, Cond.selects RX2 yX2_isFishing yX2_isFishing, Cond.code yX2_isFishing cX2_isFishing 1 (some .boolean), Cond.methodLink RX1 166 yX2_catchOf, Cond.instanceMethod yX2_catchOf, Cond.selects RX2 yX2_catchOf yX2_catchOf, Cond.code yX2_catchOf cX2_catchOf 3 (some .int), Cond.methodLink RX2 41 Lib.Math.min.name, Cond.static Lib.Math.min.name, Cond.initialized "java/lang/Math", Cond.code Lib.Math.min.name Lib.Math.min.code 2 (some .int), Cond.methodLink RX1 151 yX1_moveBarges, Cond.instanceMethod yX1_moveBarges, Cond.selects RX1 yX1_moveBarges yX1_moveBarges, Cond.code yX1_moveBarges cX1_moveBarges 4 none, Cond.fieldLink RX1 93 "StakeWeirs$Weir" "place" "I", Cond.methodLink RX1 127 yX1_nextInWay, Cond.instanceMethod yX1_nextInWay, Cond.selects RX1 yX1_nextInWay yX1_nextInWay, Cond.code yX1_nextInWay cX1_nextInWay 6 (some .int), Cond.fieldLink RX1 123 "StakeWeirs$Barge" "place" "I", Cond.fieldLink RX1 120 "StakeWeirs$Barge" "wide" "I", Cond.methodLink RX1 141 yX2_isInWay]
def wsL_arrives_r6 : List Cond := [Cond.instanceMethod yX2_isInWay, Cond.selects RX2 yX2_isInWay yX2_isInWay, Cond.code yX2_isInWay cX2_isInWay 2 (some .boolean), Cond.methodLink RX2 37 yX2_isFishing, Cond.methodLink RX1 169 yX0_goOn, Cond.instanceMethod yX0_goOn, Cond.selects RX0 yX0_goOn yX0_goOn, Cond.code yX0_goOn cX0_goOn 2 none, Cond.methodLink RX0 24 Lib.Math.min.name, Cond.methodLink RX1 173 yX1_breakThrough, Cond.instanceMethod yX1_breakThrough, Cond.selects RX1 yX1_breakThrough yX1_breakThrough, Cond.code yX1_breakThrough cX1_breakThrough 4 none, Cond.fieldLink RX1 124 "StakeWeirs$Barge" "broken" "I", Cond.methodLink RX1 176 yX2_breakFor, Cond.instanceMethod yX2_breakFor, Cond.selects RX2 yX2_breakFor yX2_breakFor, Cond.code yX2_breakFor cX2_breakFor 3 (some .int), Cond.methodLink RX2 47 yX2_loseWattle, Cond.instanceMethod yX2_loseWattle, Cond.selects RX2 yX2_loseWattle yX2_loseWattle, Cond.code yX2_loseWattle cX2_loseWattle 2 none, Cond.methodLink RX1 154 yX1_leaveOutArrived, Cond.instanceMethod yX1_leaveOutArrived]
def wsL_arrives_r7 : List Cond := [Cond.selects RX1 yX1_leaveOutArrived yX1_leaveOutArrived, Cond.code yX1_leaveOutArrived cX1_leaveOutArrived 4 none, Cond.methodLink RX1 157 yX1_rotWattle, Cond.instanceMethod yX1_rotWattle, Cond.selects RX1 yX1_rotWattle yX1_rotWattle, Cond.code yX1_rotWattle cX1_rotWattle 4 none, Cond.methodLink RX1 131 yX2_isHeld, Cond.instanceMethod yX2_isHeld, Cond.selects RX2 yX2_isHeld yX2_isHeld, Cond.code yX2_isHeld cX2_isHeld 1 (some .boolean), Cond.methodLink RX1 179 yX2_loseWattle, Cond.methodLink RX1 160 yX1_collectRents, Cond.instanceMethod yX1_collectRents, Cond.selects RX1 yX1_collectRents yX1_collectRents, Cond.code yX1_collectRents cX1_collectRents 3 none, Cond.methodLink RX1 182 yX2_payRent, Cond.instanceMethod yX2_payRent, Cond.selects RX2 yX2_payRent yX2_payRent, Cond.code yX2_payRent cX2_payRent 1 (some .int)]
def wsL_arrives : List Cond := .codeWith yL_arrives cL_arrives 4 (some .int) [(0, 9, 12, 21)] :: ((wsL_arrives_r1 ++ (wsL_arrives_r2 ++ (wsL_arrives_r3 ++ (wsL_arrives_r4 ++ (wsL_arrives_r5 ++ (wsL_arrives_r6 ++ wsL_arrives_r7)))))) ++ wsX30 ++ wsX00 ++ wsX10 ++ wsX20 ++ (vx_atS RX3 51 "java/lang/IndexOutOfBoundsException" ["java/lang/RuntimeException", "java/lang/Exception"]).filter goodWord)
def wsL_lasts_r1 : List Cond := [Cond.classLink RL 21 "java/lang/IndexOutOfBoundsException", Cond.methodLink RL 61 yX3_lasts, Cond.instanceMethod yX3_lasts, Cond.selects RX3 yX3_lasts yX3_lasts, Cond.initialized RX3, Cond.code yX3_lasts cX3_lasts 4 (some .int), Cond.classLink RX3 47 "java/lang/IndexOutOfBoundsException", Cond.initialized "java/lang/IndexOutOfBoundsException", Cond.fieldLink RX3 12 "StakeWeirs" "now" "LStakeWeirs$Estuary;", Cond.fieldLink RX3 16 "StakeWeirs" "trial" "LStakeWeirs$Estuary;", Cond.fieldLink RX3 66 "StakeWeirs$Weir" "wattle" "I", Cond.methodLink RX3 43 yX1_weirAt, Cond.instanceMethod yX1_weirAt, Cond.selects RX1 yX1_weirAt yX1_weirAt, Cond.initialized RX1, Cond.code yX1_weirAt cX1_weirAt 3 (some (.object "StakeWeirs$Weir")), Cond.fieldLink RX1 39 "StakeWeirs$Estuary" "weirCount" "I", Cond.fieldLink RX1 20 "StakeWeirs$Estuary" "weirs" "[LStakeWeirs$Weir;", Cond.methodLink RX3 149 yX1_copyFrom, Cond.instanceMethod yX1_copyFrom, Cond.selects RX1 yX1_copyFrom yX1_copyFrom, Cond.code yX1_copyFrom cX1_copyFrom 3 none, Cond.fieldLink RX1 9 "StakeWeirs$Estuary" "table" "[I", Cond.fieldLink RX1 15 "StakeWeirs$Estuary" "order" "[I"]
def wsL_lasts_r2 : List Cond := [Cond.fieldLink RX1 51 "StakeWeirs$Estuary" "bargeCount" "I", Cond.fieldLink RX1 62 "StakeWeirs$Estuary" "night" "I", Cond.fieldLink RX1 65 "StakeWeirs$Estuary" "arrived" "I", Cond.fieldLink RX1 68 "StakeWeirs$Estuary" "fines" "I", Cond.fieldLink RX1 71 "StakeWeirs$Estuary" "rents" "I", Cond.methodLink RX1 32 yX1_tableEels, Cond.instanceMethod yX1_tableEels, Cond.selects RX1 yX1_tableEels yX1_tableEels, Cond.code yX1_tableEels cX1_tableEels 2 (some .int), Cond.methodLink RX1 36 yX1_inOrder, Cond.instanceMethod yX1_inOrder, Cond.selects RX1 yX1_inOrder yX1_inOrder, Cond.code yX1_inOrder cX1_inOrder 2 (some .int), Cond.methodLink RX1 43 yX1_weirAt, Cond.methodLink RX1 47 yX1_copyWeir, Cond.static yX1_copyWeir, Cond.code yX1_copyWeir cX1_copyWeir 2 none, Cond.methodLink RX1 74 yX2_copyFrom, Cond.instanceMethod yX2_copyFrom, Cond.selects RX2 yX2_copyFrom yX2_copyFrom, Cond.initialized RX2, Cond.code yX2_copyFrom cX2_copyFrom 2 none, Cond.fieldLink RX2 9 "StakeWeirs$Weir" "place" "I", Cond.fieldLink RX2 15 "StakeWeirs$Weir" "stakes" "I"]
def wsL_lasts_r3 : List Cond := [Cond.fieldLink RX2 18 "StakeWeirs$Weir" "wattle" "I", Cond.fieldLink RX2 21 "StakeWeirs$Weir" "rent" "I", Cond.fieldLink RX2 24 "StakeWeirs$Weir" "coins" "I", Cond.fieldLink RX2 27 "StakeWeirs$Weir" "eels" "I", Cond.fieldLink RX2 30 "StakeWeirs$Weir" "open" "Z", Cond.fieldLink RX2 34 "StakeWeirs$Weir" "owed" "I", Cond.methodLink RX1 54 yX1_bargeAt, Cond.instanceMethod yX1_bargeAt, Cond.selects RX1 yX1_bargeAt yX1_bargeAt, Cond.code yX1_bargeAt cX1_bargeAt 3 (some (.object "StakeWeirs$Barge")), Cond.fieldLink RX1 27 "StakeWeirs$Estuary" "barges" "[LStakeWeirs$Barge;", Cond.methodLink RX1 58 yX1_copyBarge, Cond.static yX1_copyBarge, Cond.code yX1_copyBarge cX1_copyBarge 2 none, Cond.methodLink RX1 78 yX0_copyFrom, Cond.instanceMethod yX0_copyFrom, Cond.selects RX0 yX0_copyFrom yX0_copyFrom, Cond.initialized RX0, Cond.code yX0_copyFrom cX0_copyFrom 2 none, Cond.fieldLink RX0 9 "StakeWeirs$Barge" "ticket" "I", Cond.fieldLink RX0 15 "StakeWeirs$Barge" "wide" "I", Cond.fieldLink RX0 18 "StakeWeirs$Barge" "place" "I", Cond.fieldLink RX0 21 "StakeWeirs$Barge" "broken" "I", Cond.methodLink RX3 52 yX2_isHeld]
def wsL_lasts_r4 : List Cond := [Cond.instanceMethod yX2_isHeld, Cond.selects RX2 yX2_isHeld yX2_isHeld, Cond.code yX2_isHeld cX2_isHeld 1 (some .boolean), Cond.methodLink RX3 145 yX1_goThroughNights, Cond.instanceMethod yX1_goThroughNights, Cond.selects RX1 yX1_goThroughNights yX1_goThroughNights, Cond.code yX1_goThroughNights cX1_goThroughNights 3 none, Cond.methodLink RX1 148 yX1_catchEels, Cond.instanceMethod yX1_catchEels, Cond.selects RX1 yX1_catchEels yX1_catchEels, Cond.code yX1_catchEels cX1_catchEels 4 none, Cond.methodLink RX1 111 yX1_run, Cond.instanceMethod yX1_run, Cond.selects RX1 yX1_run yX1_run, Cond.code yX1_run cX1_run 3 (some .int), Cond.methodLink RX1 101 yJ9_floorMod_7cf53, Cond.static yJ9_floorMod_7cf53, Cond.initialized RJ9, Cond.code yJ9_floorMod_7cf53 cJ9_floorMod_7cf53 3 (some .int), Cond.methodLink RX1 107 yX1_moon, Cond.instanceMethod yX1_moon, Cond.selects RX1 yX1_moon yX1_moon, Cond.code yX1_moon cX1_moon 2 (some .int), Cond.methodLink RX1 163 yX2_isFishing]
def wsL_lasts_r5 : List Cond := [Cond.instanceMethod yX2_isFishing, Cond.selects RX2 yX2_isFishing yX2_isFishing, Cond.code yX2_isFishing cX2_isFishing 1 (some .boolean), Cond.methodLink RX1 166 yX2_catchOf, Cond.instanceMethod yX2_catchOf, Cond.selects RX2 yX2_catchOf yX2_catchOf, Cond.code yX2_catchOf cX2_catchOf 3 (some .int), Cond.methodLink RX2 41 Lib.Math.min.name, Cond.static Lib.Math.min.name, Cond.initialized "java/lang/Math", Cond.code Lib.Math.min.name Lib.Math.min.code 2 (some .int), Cond.methodLink RX1 151 yX1_moveBarges, Cond.instanceMethod yX1_moveBarges, Cond.selects RX1 yX1_moveBarges yX1_moveBarges, Cond.code yX1_moveBarges cX1_moveBarges 4 none, Cond.fieldLink RX1 93 "StakeWeirs$Weir" "place" "I", Cond.methodLink RX1 127 yX1_nextInWay, Cond.instanceMethod yX1_nextInWay, Cond.selects RX1 yX1_nextInWay yX1_nextInWay, Cond.code yX1_nextInWay cX1_nextInWay 6 (some .int), Cond.fieldLink RX1 123 "StakeWeirs$Barge" "place" "I", Cond.fieldLink RX1 120 "StakeWeirs$Barge" "wide" "I", Cond.methodLink RX1 141 yX2_isInWay, Cond.instanceMethod yX2_isInWay]
def wsL_lasts_r6 : List Cond := [Cond.selects RX2 yX2_isInWay yX2_isInWay, Cond.code yX2_isInWay cX2_isInWay 2 (some .boolean), Cond.methodLink RX2 37 yX2_isFishing, Cond.methodLink RX1 169 yX0_goOn, Cond.instanceMethod yX0_goOn, Cond.selects RX0 yX0_goOn yX0_goOn, Cond.code yX0_goOn cX0_goOn 2 none, Cond.methodLink RX0 24 Lib.Math.min.name, Cond.methodLink RX1 173 yX1_breakThrough, Cond.instanceMethod yX1_breakThrough, Cond.selects RX1 yX1_breakThrough yX1_breakThrough, Cond.code yX1_breakThrough cX1_breakThrough 4 none, Cond.fieldLink RX1 124 "StakeWeirs$Barge" "broken" "I", Cond.methodLink RX1 176 yX2_breakFor, Cond.instanceMethod yX2_breakFor, Cond.selects RX2 yX2_breakFor yX2_breakFor, Cond.code yX2_breakFor cX2_breakFor 3 (some .int), Cond.methodLink RX2 47 yX2_loseWattle, Cond.instanceMethod yX2_loseWattle, Cond.selects RX2 yX2_loseWattle yX2_loseWattle, Cond.code yX2_loseWattle cX2_loseWattle 2 none, Cond.methodLink RX1 154 yX1_leaveOutArrived, Cond.instanceMethod yX1_leaveOutArrived, Cond.selects RX1 yX1_leaveOutArrived yX1_leaveOutArrived]
def wsL_lasts_r7 : List Cond := [Cond.code yX1_leaveOutArrived cX1_leaveOutArrived 4 none, Cond.methodLink RX1 157 yX1_rotWattle, Cond.instanceMethod yX1_rotWattle, Cond.selects RX1 yX1_rotWattle yX1_rotWattle, Cond.code yX1_rotWattle cX1_rotWattle 4 none, Cond.methodLink RX1 131 yX2_isHeld, Cond.methodLink RX1 179 yX2_loseWattle, Cond.methodLink RX1 160 yX1_collectRents, Cond.instanceMethod yX1_collectRents, Cond.selects RX1 yX1_collectRents yX1_collectRents, Cond.code yX1_collectRents cX1_collectRents 3 none, Cond.methodLink RX1 182 yX2_payRent, Cond.instanceMethod yX2_payRent, Cond.selects RX2 yX2_payRent yX2_payRent, Cond.code yX2_payRent cX2_payRent 1 (some .int)]
def wsL_lasts : List Cond := .codeWith yL_lasts cL_lasts 4 (some .int) [(0, 9, 12, 21)] :: ((wsL_lasts_r1 ++ (wsL_lasts_r2 ++ (wsL_lasts_r3 ++ (wsL_lasts_r4 ++ (wsL_lasts_r5 ++ (wsL_lasts_r6 ++ wsL_lasts_r7)))))) ++ wsX30 ++ wsX20 ++ wsX10 ++ wsX00 ++ (vx_atS RX3 51 "java/lang/IndexOutOfBoundsException" ["java/lang/RuntimeException", "java/lang/Exception"]).filter goodWord)
def wsL_foresee_r1 : List Cond := [Cond.classLink RL 13 "java/lang/IllegalArgumentException", Cond.classLink RL 21 "java/lang/IndexOutOfBoundsException", Cond.methodLink RL 64 yX3_foresee, Cond.instanceMethod yX3_foresee, Cond.selects RX3 yX3_foresee yX3_foresee, Cond.initialized RX3, Cond.code yX3_foresee cX3_foresee 3 (some .int), Cond.classLink RX3 23 "java/lang/IllegalArgumentException", Cond.initialized "java/lang/IllegalArgumentException", Cond.classLink RX3 47 "java/lang/IndexOutOfBoundsException", Cond.initialized "java/lang/IndexOutOfBoundsException", Cond.fieldLink RX3 16 "StakeWeirs" "trial" "LStakeWeirs$Estuary;", Cond.fieldLink RX3 12 "StakeWeirs" "now" "LStakeWeirs$Estuary;", Cond.methodLink RX3 19 yX3_isWithin, Cond.static yX3_isWithin, Cond.code yX3_isWithin cX3_isWithin 3 (some .boolean), Cond.methodLink RX3 149 yX1_copyFrom, Cond.instanceMethod yX1_copyFrom, Cond.selects RX1 yX1_copyFrom yX1_copyFrom, Cond.initialized RX1, Cond.code yX1_copyFrom cX1_copyFrom 3 none, Cond.fieldLink RX1 9 "StakeWeirs$Estuary" "table" "[I", Cond.fieldLink RX1 15 "StakeWeirs$Estuary" "order" "[I", Cond.fieldLink RX1 39 "StakeWeirs$Estuary" "weirCount" "I"]
def wsL_foresee_r2 : List Cond := [Cond.fieldLink RX1 51 "StakeWeirs$Estuary" "bargeCount" "I", Cond.fieldLink RX1 62 "StakeWeirs$Estuary" "night" "I", Cond.fieldLink RX1 65 "StakeWeirs$Estuary" "arrived" "I", Cond.fieldLink RX1 68 "StakeWeirs$Estuary" "fines" "I", Cond.fieldLink RX1 71 "StakeWeirs$Estuary" "rents" "I", Cond.methodLink RX1 32 yX1_tableEels, Cond.instanceMethod yX1_tableEels, Cond.selects RX1 yX1_tableEels yX1_tableEels, Cond.code yX1_tableEels cX1_tableEels 2 (some .int), Cond.methodLink RX1 36 yX1_inOrder, Cond.instanceMethod yX1_inOrder, Cond.selects RX1 yX1_inOrder yX1_inOrder, Cond.code yX1_inOrder cX1_inOrder 2 (some .int), Cond.methodLink RX1 43 yX1_weirAt, Cond.instanceMethod yX1_weirAt, Cond.selects RX1 yX1_weirAt yX1_weirAt, Cond.code yX1_weirAt cX1_weirAt 3 (some (.object "StakeWeirs$Weir")), Cond.fieldLink RX1 20 "StakeWeirs$Estuary" "weirs" "[LStakeWeirs$Weir;", Cond.methodLink RX1 47 yX1_copyWeir, Cond.static yX1_copyWeir, Cond.code yX1_copyWeir cX1_copyWeir 2 none, Cond.methodLink RX1 74 yX2_copyFrom, Cond.instanceMethod yX2_copyFrom, Cond.selects RX2 yX2_copyFrom yX2_copyFrom]
def wsL_foresee_r3 : List Cond := [Cond.initialized RX2, Cond.code yX2_copyFrom cX2_copyFrom 2 none, Cond.fieldLink RX2 9 "StakeWeirs$Weir" "place" "I", Cond.fieldLink RX2 15 "StakeWeirs$Weir" "stakes" "I", Cond.fieldLink RX2 18 "StakeWeirs$Weir" "wattle" "I", Cond.fieldLink RX2 21 "StakeWeirs$Weir" "rent" "I", Cond.fieldLink RX2 24 "StakeWeirs$Weir" "coins" "I", Cond.fieldLink RX2 27 "StakeWeirs$Weir" "eels" "I", Cond.fieldLink RX2 30 "StakeWeirs$Weir" "open" "Z", Cond.fieldLink RX2 34 "StakeWeirs$Weir" "owed" "I", Cond.methodLink RX1 54 yX1_bargeAt, Cond.instanceMethod yX1_bargeAt, Cond.selects RX1 yX1_bargeAt yX1_bargeAt, Cond.code yX1_bargeAt cX1_bargeAt 3 (some (.object "StakeWeirs$Barge")), Cond.fieldLink RX1 27 "StakeWeirs$Estuary" "barges" "[LStakeWeirs$Barge;", Cond.methodLink RX1 58 yX1_copyBarge, Cond.static yX1_copyBarge, Cond.code yX1_copyBarge cX1_copyBarge 2 none, Cond.methodLink RX1 78 yX0_copyFrom, Cond.instanceMethod yX0_copyFrom, Cond.selects RX0 yX0_copyFrom yX0_copyFrom, Cond.initialized RX0, Cond.code yX0_copyFrom cX0_copyFrom 2 none, Cond.fieldLink RX0 9 "StakeWeirs$Barge" "ticket" "I"]
def wsL_foresee_r4 : List Cond := [Cond.fieldLink RX0 15 "StakeWeirs$Barge" "wide" "I", Cond.fieldLink RX0 18 "StakeWeirs$Barge" "place" "I", Cond.fieldLink RX0 21 "StakeWeirs$Barge" "broken" "I", Cond.methodLink RX3 145 yX1_goThroughNights, Cond.instanceMethod yX1_goThroughNights, Cond.selects RX1 yX1_goThroughNights yX1_goThroughNights, Cond.code yX1_goThroughNights cX1_goThroughNights 3 none, Cond.methodLink RX1 148 yX1_catchEels, Cond.instanceMethod yX1_catchEels, Cond.selects RX1 yX1_catchEels yX1_catchEels, Cond.code yX1_catchEels cX1_catchEels 4 none, Cond.methodLink RX1 111 yX1_run, Cond.instanceMethod yX1_run, Cond.selects RX1 yX1_run yX1_run, Cond.code yX1_run cX1_run 3 (some .int), Cond.methodLink RX1 101 yJ9_floorMod_7cf53, Cond.static yJ9_floorMod_7cf53, Cond.initialized RJ9, Cond.code yJ9_floorMod_7cf53 cJ9_floorMod_7cf53 3 (some .int), Cond.methodLink RX1 107 yX1_moon, Cond.instanceMethod yX1_moon, Cond.selects RX1 yX1_moon yX1_moon, Cond.code yX1_moon cX1_moon 2 (some .int), Cond.methodLink RX1 163 yX2_isFishing]
def wsL_foresee_r5 : List Cond := [Cond.instanceMethod yX2_isFishing, Cond.selects RX2 yX2_isFishing yX2_isFishing, Cond.code yX2_isFishing cX2_isFishing 1 (some .boolean), Cond.methodLink RX1 166 yX2_catchOf, Cond.instanceMethod yX2_catchOf, Cond.selects RX2 yX2_catchOf yX2_catchOf, Cond.code yX2_catchOf cX2_catchOf 3 (some .int), Cond.methodLink RX2 41 Lib.Math.min.name, Cond.static Lib.Math.min.name, Cond.initialized "java/lang/Math", Cond.code Lib.Math.min.name Lib.Math.min.code 2 (some .int), Cond.methodLink RX1 151 yX1_moveBarges, Cond.instanceMethod yX1_moveBarges, Cond.selects RX1 yX1_moveBarges yX1_moveBarges, Cond.code yX1_moveBarges cX1_moveBarges 4 none, Cond.fieldLink RX1 93 "StakeWeirs$Weir" "place" "I", Cond.methodLink RX1 127 yX1_nextInWay, Cond.instanceMethod yX1_nextInWay, Cond.selects RX1 yX1_nextInWay yX1_nextInWay, Cond.code yX1_nextInWay cX1_nextInWay 6 (some .int), Cond.fieldLink RX1 123 "StakeWeirs$Barge" "place" "I", Cond.fieldLink RX1 120 "StakeWeirs$Barge" "wide" "I", Cond.methodLink RX1 141 yX2_isInWay, Cond.instanceMethod yX2_isInWay]
def wsL_foresee_r6 : List Cond := [Cond.selects RX2 yX2_isInWay yX2_isInWay, Cond.code yX2_isInWay cX2_isInWay 2 (some .boolean), Cond.methodLink RX2 37 yX2_isFishing, Cond.methodLink RX1 169 yX0_goOn, Cond.instanceMethod yX0_goOn, Cond.selects RX0 yX0_goOn yX0_goOn, Cond.code yX0_goOn cX0_goOn 2 none, Cond.methodLink RX0 24 Lib.Math.min.name, Cond.methodLink RX1 173 yX1_breakThrough, Cond.instanceMethod yX1_breakThrough, Cond.selects RX1 yX1_breakThrough yX1_breakThrough, Cond.code yX1_breakThrough cX1_breakThrough 4 none, Cond.fieldLink RX1 124 "StakeWeirs$Barge" "broken" "I", Cond.methodLink RX1 176 yX2_breakFor, Cond.instanceMethod yX2_breakFor, Cond.selects RX2 yX2_breakFor yX2_breakFor, Cond.code yX2_breakFor cX2_breakFor 3 (some .int), Cond.methodLink RX2 47 yX2_loseWattle, Cond.instanceMethod yX2_loseWattle, Cond.selects RX2 yX2_loseWattle yX2_loseWattle, Cond.code yX2_loseWattle cX2_loseWattle 2 none, Cond.methodLink RX1 154 yX1_leaveOutArrived, Cond.instanceMethod yX1_leaveOutArrived, Cond.selects RX1 yX1_leaveOutArrived yX1_leaveOutArrived]
def wsL_foresee_r7 : List Cond := [Cond.code yX1_leaveOutArrived cX1_leaveOutArrived 4 none, Cond.methodLink RX1 157 yX1_rotWattle, Cond.instanceMethod yX1_rotWattle, Cond.selects RX1 yX1_rotWattle yX1_rotWattle, Cond.code yX1_rotWattle cX1_rotWattle 4 none, Cond.methodLink RX1 131 yX2_isHeld, Cond.instanceMethod yX2_isHeld, Cond.selects RX2 yX2_isHeld yX2_isHeld, Cond.code yX2_isHeld cX2_isHeld 1 (some .boolean), Cond.methodLink RX1 179 yX2_loseWattle, Cond.methodLink RX1 160 yX1_collectRents, Cond.instanceMethod yX1_collectRents, Cond.selects RX1 yX1_collectRents yX1_collectRents, Cond.code yX1_collectRents cX1_collectRents 3 none, Cond.methodLink RX1 182 yX2_payRent, Cond.instanceMethod yX2_payRent, Cond.selects RX2 yX2_payRent yX2_payRent, Cond.code yX2_payRent cX2_payRent 1 (some .int), Cond.methodLink RX3 133 yX1_fact, Cond.instanceMethod yX1_fact, Cond.selects RX1 yX1_fact yX1_fact, Cond.code yX1_fact cX1_fact 2 (some .int), Cond.methodLink RX1 114 yX1_heldWeirs, Cond.instanceMethod yX1_heldWeirs]
def wsL_foresee_r8 : List Cond := [Cond.selects RX1 yX1_heldWeirs yX1_heldWeirs, Cond.code yX1_heldWeirs cX1_heldWeirs 4 (some .int), Cond.methodLink RX1 117 yX1_allEels, Cond.instanceMethod yX1_allEels, Cond.selects RX1 yX1_allEels yX1_allEels, Cond.code yX1_allEels cX1_allEels 4 (some .int), Cond.fieldLink RX1 138 "StakeWeirs$Weir" "eels" "I"]
def wsL_foresee : List Cond := .codeWith yL_foresee cL_foresee 5 (some .int) [(0, 10, 13, 13), (0, 10, 17, 21)] :: ((wsL_foresee_r1 ++ (wsL_foresee_r2 ++ (wsL_foresee_r3 ++ (wsL_foresee_r4 ++ (wsL_foresee_r5 ++ (wsL_foresee_r6 ++ (wsL_foresee_r7 ++ wsL_foresee_r8))))))) ++ wsX30 ++ wsX10 ++ wsX20 ++ wsX00 ++ (vx_atS RX3 27 "java/lang/IllegalArgumentException" ["java/lang/RuntimeException", "java/lang/Exception"]).filter goodWord ++ (vx_atS RX3 51 "java/lang/IndexOutOfBoundsException" ["java/lang/RuntimeException", "java/lang/Exception"]).filter goodWord)
def wsL_advise_r1 : List Cond := [Cond.classLink RL 21 "java/lang/IndexOutOfBoundsException", Cond.classLink RL 13 "java/lang/IllegalArgumentException", Cond.methodLink RL 67 yX3_advise, Cond.instanceMethod yX3_advise, Cond.selects RX3 yX3_advise yX3_advise, Cond.initialized RX3, Cond.code yX3_advise cX3_advise 8 (some .int), Cond.classLink RX3 47 "java/lang/IndexOutOfBoundsException", Cond.initialized "java/lang/IndexOutOfBoundsException", Cond.classLink RX3 23 "java/lang/IllegalArgumentException", Cond.initialized "java/lang/IllegalArgumentException", Cond.fieldLink RX3 12 "StakeWeirs" "now" "LStakeWeirs$Estuary;", Cond.methodLink RX3 43 yX1_weirAt, Cond.instanceMethod yX1_weirAt, Cond.selects RX1 yX1_weirAt yX1_weirAt, Cond.initialized RX1, Cond.code yX1_weirAt cX1_weirAt 3 (some (.object "StakeWeirs$Weir")), Cond.fieldLink RX1 39 "StakeWeirs$Estuary" "weirCount" "I", Cond.fieldLink RX1 20 "StakeWeirs$Estuary" "weirs" "[LStakeWeirs$Weir;", Cond.methodLink RX3 19 yX3_isWithin, Cond.static yX3_isWithin, Cond.code yX3_isWithin cX3_isWithin 3 (some .boolean), Cond.methodLink RX3 173 yX2_isFishing, Cond.instanceMethod yX2_isFishing]
def wsL_advise_r2 : List Cond := [Cond.selects RX2 yX2_isFishing yX2_isFishing, Cond.initialized RX2, Cond.code yX2_isFishing cX2_isFishing 1 (some .boolean), Cond.fieldLink RX2 34 "StakeWeirs$Weir" "owed" "I", Cond.fieldLink RX2 30 "StakeWeirs$Weir" "open" "Z", Cond.methodLink RX3 176 yX3_eelsWithStakes, Cond.instanceMethod yX3_eelsWithStakes, Cond.selects RX3 yX3_eelsWithStakes yX3_eelsWithStakes, Cond.code yX3_eelsWithStakes cX3_eelsWithStakes 5 (some .int), Cond.fieldLink RX3 16 "StakeWeirs" "trial" "LStakeWeirs$Estuary;", Cond.fieldLink RX3 76 "StakeWeirs$Weir" "stakes" "I", Cond.fieldLink RX3 81 "StakeWeirs$Weir" "eels" "I", Cond.methodLink RX3 149 yX1_copyFrom, Cond.instanceMethod yX1_copyFrom, Cond.selects RX1 yX1_copyFrom yX1_copyFrom, Cond.code yX1_copyFrom cX1_copyFrom 3 none, Cond.fieldLink RX1 9 "StakeWeirs$Estuary" "table" "[I", Cond.fieldLink RX1 15 "StakeWeirs$Estuary" "order" "[I", Cond.fieldLink RX1 51 "StakeWeirs$Estuary" "bargeCount" "I", Cond.fieldLink RX1 62 "StakeWeirs$Estuary" "night" "I", Cond.fieldLink RX1 65 "StakeWeirs$Estuary" "arrived" "I", Cond.fieldLink RX1 68 "StakeWeirs$Estuary" "fines" "I", Cond.fieldLink RX1 71 "StakeWeirs$Estuary" "rents" "I", Cond.methodLink RX1 32 yX1_tableEels]
def wsL_advise_r3 : List Cond := [Cond.instanceMethod yX1_tableEels, Cond.selects RX1 yX1_tableEels yX1_tableEels, Cond.code yX1_tableEels cX1_tableEels 2 (some .int), Cond.methodLink RX1 36 yX1_inOrder, Cond.instanceMethod yX1_inOrder, Cond.selects RX1 yX1_inOrder yX1_inOrder, Cond.code yX1_inOrder cX1_inOrder 2 (some .int), Cond.methodLink RX1 43 yX1_weirAt, Cond.methodLink RX1 47 yX1_copyWeir, Cond.static yX1_copyWeir, Cond.code yX1_copyWeir cX1_copyWeir 2 none, Cond.methodLink RX1 74 yX2_copyFrom, Cond.instanceMethod yX2_copyFrom, Cond.selects RX2 yX2_copyFrom yX2_copyFrom, Cond.code yX2_copyFrom cX2_copyFrom 2 none, Cond.fieldLink RX2 9 "StakeWeirs$Weir" "place" "I", Cond.fieldLink RX2 15 "StakeWeirs$Weir" "stakes" "I", Cond.fieldLink RX2 18 "StakeWeirs$Weir" "wattle" "I", Cond.fieldLink RX2 21 "StakeWeirs$Weir" "rent" "I", Cond.fieldLink RX2 24 "StakeWeirs$Weir" "coins" "I", Cond.fieldLink RX2 27 "StakeWeirs$Weir" "eels" "I", Cond.methodLink RX1 54 yX1_bargeAt, Cond.instanceMethod yX1_bargeAt, Cond.selects RX1 yX1_bargeAt yX1_bargeAt]
def wsL_advise_r4 : List Cond := [Cond.code yX1_bargeAt cX1_bargeAt 3 (some (.object "StakeWeirs$Barge")), Cond.fieldLink RX1 27 "StakeWeirs$Estuary" "barges" "[LStakeWeirs$Barge;", Cond.methodLink RX1 58 yX1_copyBarge, Cond.static yX1_copyBarge, Cond.code yX1_copyBarge cX1_copyBarge 2 none, Cond.methodLink RX1 78 yX0_copyFrom, Cond.instanceMethod yX0_copyFrom, Cond.selects RX0 yX0_copyFrom yX0_copyFrom, Cond.initialized RX0, Cond.code yX0_copyFrom cX0_copyFrom 2 none, Cond.fieldLink RX0 9 "StakeWeirs$Barge" "ticket" "I", Cond.fieldLink RX0 15 "StakeWeirs$Barge" "wide" "I", Cond.fieldLink RX0 18 "StakeWeirs$Barge" "place" "I", Cond.fieldLink RX0 21 "StakeWeirs$Barge" "broken" "I", Cond.methodLink RX3 145 yX1_goThroughNights, Cond.instanceMethod yX1_goThroughNights, Cond.selects RX1 yX1_goThroughNights yX1_goThroughNights, Cond.code yX1_goThroughNights cX1_goThroughNights 3 none, Cond.methodLink RX1 148 yX1_catchEels, Cond.instanceMethod yX1_catchEels, Cond.selects RX1 yX1_catchEels yX1_catchEels, Cond.code yX1_catchEels cX1_catchEels 4 none, Cond.methodLink RX1 111 yX1_run, Cond.instanceMethod yX1_run]
def wsL_advise_r5 : List Cond := [Cond.selects RX1 yX1_run yX1_run, Cond.code yX1_run cX1_run 3 (some .int), Cond.methodLink RX1 101 yJ9_floorMod_7cf53, Cond.static yJ9_floorMod_7cf53, Cond.initialized RJ9, Cond.code yJ9_floorMod_7cf53 cJ9_floorMod_7cf53 3 (some .int), Cond.methodLink RX1 107 yX1_moon, Cond.instanceMethod yX1_moon, Cond.selects RX1 yX1_moon yX1_moon, Cond.code yX1_moon cX1_moon 2 (some .int), Cond.methodLink RX1 163 yX2_isFishing, Cond.methodLink RX1 166 yX2_catchOf, Cond.instanceMethod yX2_catchOf, Cond.selects RX2 yX2_catchOf yX2_catchOf, Cond.code yX2_catchOf cX2_catchOf 3 (some .int), Cond.methodLink RX2 41 Lib.Math.min.name, Cond.static Lib.Math.min.name, Cond.initialized "java/lang/Math", Cond.code Lib.Math.min.name Lib.Math.min.code 2 (some .int), Cond.methodLink RX1 151 yX1_moveBarges, Cond.instanceMethod yX1_moveBarges, Cond.selects RX1 yX1_moveBarges yX1_moveBarges, Cond.code yX1_moveBarges cX1_moveBarges 4 none, Cond.fieldLink RX1 93 "StakeWeirs$Weir" "place" "I"]
def wsL_advise_r6 : List Cond := [Cond.methodLink RX1 127 yX1_nextInWay, Cond.instanceMethod yX1_nextInWay, Cond.selects RX1 yX1_nextInWay yX1_nextInWay, Cond.code yX1_nextInWay cX1_nextInWay 6 (some .int), Cond.fieldLink RX1 123 "StakeWeirs$Barge" "place" "I", Cond.fieldLink RX1 120 "StakeWeirs$Barge" "wide" "I", Cond.methodLink RX1 141 yX2_isInWay, Cond.instanceMethod yX2_isInWay, Cond.selects RX2 yX2_isInWay yX2_isInWay, Cond.code yX2_isInWay cX2_isInWay 2 (some .boolean), Cond.methodLink RX2 37 yX2_isFishing, Cond.methodLink RX1 169 yX0_goOn, Cond.instanceMethod yX0_goOn, Cond.selects RX0 yX0_goOn yX0_goOn, Cond.code yX0_goOn cX0_goOn 2 none, Cond.methodLink RX0 24 Lib.Math.min.name, Cond.methodLink RX1 173 yX1_breakThrough, Cond.instanceMethod yX1_breakThrough, Cond.selects RX1 yX1_breakThrough yX1_breakThrough, Cond.code yX1_breakThrough cX1_breakThrough 4 none, Cond.fieldLink RX1 124 "StakeWeirs$Barge" "broken" "I", Cond.methodLink RX1 176 yX2_breakFor, Cond.instanceMethod yX2_breakFor, Cond.selects RX2 yX2_breakFor yX2_breakFor]
def wsL_advise_r7 : List Cond := [Cond.code yX2_breakFor cX2_breakFor 3 (some .int), Cond.methodLink RX2 47 yX2_loseWattle, Cond.instanceMethod yX2_loseWattle, Cond.selects RX2 yX2_loseWattle yX2_loseWattle, Cond.code yX2_loseWattle cX2_loseWattle 2 none, Cond.methodLink RX1 154 yX1_leaveOutArrived, Cond.instanceMethod yX1_leaveOutArrived, Cond.selects RX1 yX1_leaveOutArrived yX1_leaveOutArrived, Cond.code yX1_leaveOutArrived cX1_leaveOutArrived 4 none, Cond.methodLink RX1 157 yX1_rotWattle, Cond.instanceMethod yX1_rotWattle, Cond.selects RX1 yX1_rotWattle yX1_rotWattle, Cond.code yX1_rotWattle cX1_rotWattle 4 none, Cond.methodLink RX1 131 yX2_isHeld, Cond.instanceMethod yX2_isHeld, Cond.selects RX2 yX2_isHeld yX2_isHeld, Cond.code yX2_isHeld cX2_isHeld 1 (some .boolean), Cond.methodLink RX1 179 yX2_loseWattle, Cond.methodLink RX1 160 yX1_collectRents, Cond.instanceMethod yX1_collectRents, Cond.selects RX1 yX1_collectRents yX1_collectRents, Cond.code yX1_collectRents cX1_collectRents 3 none, Cond.methodLink RX1 182 yX2_payRent, Cond.instanceMethod yX2_payRent]
def wsL_advise_r8 : List Cond := [Cond.selects RX2 yX2_payRent yX2_payRent, Cond.code yX2_payRent cX2_payRent 1 (some .int)]
def wsL_advise : List Cond := .codeWith yL_advise cL_advise 5 (some .int) [(0, 10, 13, 21), (0, 10, 17, 13)] :: ((wsL_advise_r1 ++ (wsL_advise_r2 ++ (wsL_advise_r3 ++ (wsL_advise_r4 ++ (wsL_advise_r5 ++ (wsL_advise_r6 ++ (wsL_advise_r7 ++ wsL_advise_r8))))))) ++ wsX30 ++ wsX10 ++ wsX20 ++ wsX00 ++ (vx_atS RX3 51 "java/lang/IndexOutOfBoundsException" ["java/lang/RuntimeException", "java/lang/Exception"]).filter goodWord ++ (vx_atS RX3 27 "java/lang/IllegalArgumentException" ["java/lang/RuntimeException", "java/lang/Exception"]).filter goodWord)
def wsL_law0_r1 : List Cond := [Cond.classLink RL 8 RX3, Cond.instantiable RX3 2, Cond.initialized RX3, Cond.classLink RL 71 RX5, Cond.instantiable RX5 7, Cond.initialized RX5, Cond.arrayClass .long, Cond.methodLink RL 70 yX3_init, Cond.instanceMethod yX3_init, Cond.code yX3_init cX3_init 1 none, Cond.methodLink RX3 3 objectInit, Cond.instanceMethod objectInit, Cond.code objectInit ⟨#[0xb1]⟩ 1 none, Cond.classLink RX3 9 RX1, Cond.instantiable RX1 10, Cond.initialized RX1, Cond.fieldLink RX3 12 "StakeWeirs" "now" "LStakeWeirs$Estuary;", Cond.fieldLink RX3 16 "StakeWeirs" "trial" "LStakeWeirs$Estuary;", Cond.methodLink RX3 11 yX1_init, Cond.instanceMethod yX1_init, Cond.code yX1_init cX1_init 2 none, Cond.methodLink RX1 3 objectInit, Cond.arrayClass .int, Cond.fieldLink RX1 9 "StakeWeirs$Estuary" "table" "[I"]
def wsL_law0_r2 : List Cond := [Cond.fieldLink RX1 15 "StakeWeirs$Estuary" "order" "[I", Cond.classLink RX1 18 RX2, Cond.fieldLink RX1 20 "StakeWeirs$Estuary" "weirs" "[LStakeWeirs$Weir;", Cond.instantiable RX2 8, Cond.initialized RX2, Cond.classLink RX1 25 RX0, Cond.fieldLink RX1 27 "StakeWeirs$Estuary" "barges" "[LStakeWeirs$Barge;", Cond.instantiable RX0 4, Cond.initialized RX0, Cond.instanceMethod yX2_init, Cond.code yX2_init cX2_init 1 none, Cond.methodLink RX2 3 objectInit, Cond.instanceMethod yX0_init, Cond.code yX0_init cX0_init 1 none, Cond.methodLink RX0 3 objectInit, Cond.methodLink RL 73 yX5_init, Cond.instanceMethod yX5_init, Cond.code yX5_init cX5_init 1 none, Cond.methodLink RX5 1 objectInit, Cond.fieldLink RX5 7 "StakeWeirsModel" "table" "[I", Cond.fieldLink RX5 13 "StakeWeirsModel" "place" "[I", Cond.fieldLink RX5 16 "StakeWeirsModel" "rent" "[I", Cond.classLink RX5 19 RX4, Cond.instantiable RX4 16]
def wsL_law0_r3 : List Cond := [Cond.initialized RX4, Cond.fieldLink RX5 24 "StakeWeirsModel" "s" "LStakeWeirsModel$State;", Cond.fieldLink RX5 28 "StakeWeirsModel" "ahead" "LStakeWeirsModel$State;", Cond.instanceMethod yX4_init, Cond.code yX4_init cX4_init 2 none, Cond.fieldLink RX4 3 "StakeWeirsModel$State" "this$0" "LStakeWeirsModel;", Cond.methodLink RX4 9 objectInit, Cond.fieldLink RX4 15 "StakeWeirsModel$State" "stakes" "[I", Cond.fieldLink RX4 19 "StakeWeirsModel$State" "wattle" "[I", Cond.fieldLink RX4 22 "StakeWeirsModel$State" "coins" "[I", Cond.fieldLink RX4 25 "StakeWeirsModel$State" "eels" "[I", Cond.fieldLink RX4 28 "StakeWeirsModel$State" "open" "[I", Cond.fieldLink RX4 31 "StakeWeirsModel$State" "owes" "[I", Cond.fieldLink RX4 34 "StakeWeirsModel$State" "wide" "[I", Cond.fieldLink RX4 37 "StakeWeirsModel$State" "at" "[I", Cond.fieldLink RX4 40 "StakeWeirsModel$State" "broken" "[I", Cond.fieldLink RX4 43 "StakeWeirsModel$State" "was" "[I", Cond.methodLink RL 74 yL_weir, Cond.static yL_weir, Cond.initialized RL, Cond.codeWith yL_weir cL_weir 6 (some .int) [(0, 12, 15, 13), (0, 12, 19, 15)], Cond.classLink RL 13 "java/lang/IllegalArgumentException", Cond.classLink RL 15 "java/lang/IllegalStateException", Cond.methodLink RL 7 yX3_weir]
def wsL_law0_r4 : List Cond := [Cond.instanceMethod yX3_weir, Cond.selects RX3 yX3_weir yX3_weir, Cond.code yX3_weir cX3_weir 4 (some .int), Cond.classLink RX3 23 "java/lang/IllegalArgumentException", Cond.initialized "java/lang/IllegalArgumentException", Cond.classLink RX3 34 "java/lang/IllegalStateException", Cond.initialized "java/lang/IllegalStateException", Cond.fieldLink RX3 30 "StakeWeirs$Estuary" "weirCount" "I", Cond.methodLink RX3 19 yX3_isWithin, Cond.static yX3_isWithin, Cond.code yX3_isWithin cX3_isWithin 3 (some .boolean), Cond.methodLink RX3 39 yX1_addWeir, Cond.instanceMethod yX1_addWeir, Cond.selects RX1 yX1_addWeir yX1_addWeir, Cond.code yX1_addWeir cX1_addWeir 6 (some .int), Cond.fieldLink RX1 39 "StakeWeirs$Estuary" "weirCount" "I", Cond.methodLink RX1 81 yX1_putInOrder, Cond.instanceMethod yX1_putInOrder, Cond.selects RX1 yX1_putInOrder yX1_putInOrder, Cond.code yX1_putInOrder cX1_putInOrder 4 none, Cond.methodLink RX1 89 yX1_isSeawardsOf, Cond.instanceMethod yX1_isSeawardsOf, Cond.selects RX1 yX1_isSeawardsOf yX1_isSeawardsOf, Cond.code yX1_isSeawardsOf cX1_isSeawardsOf 4 (some .boolean)]
def wsL_law0_r5 : List Cond := [Cond.fieldLink RX1 93 "StakeWeirs$Weir" "place" "I", Cond.methodLink RX1 43 yX1_weirAt, Cond.instanceMethod yX1_weirAt, Cond.selects RX1 yX1_weirAt yX1_weirAt, Cond.code yX1_weirAt cX1_weirAt 3 (some (.object "StakeWeirs$Weir")), Cond.methodLink RX1 85 yX2_makeNew, Cond.instanceMethod yX2_makeNew, Cond.selects RX2 yX2_makeNew yX2_makeNew, Cond.code yX2_makeNew cX2_makeNew 4 none, Cond.fieldLink RX2 9 "StakeWeirs$Weir" "place" "I", Cond.fieldLink RX2 15 "StakeWeirs$Weir" "stakes" "I", Cond.fieldLink RX2 18 "StakeWeirs$Weir" "wattle" "I", Cond.fieldLink RX2 21 "StakeWeirs$Weir" "rent" "I", Cond.fieldLink RX2 24 "StakeWeirs$Weir" "coins" "I", Cond.fieldLink RX2 27 "StakeWeirs$Weir" "eels" "I", Cond.fieldLink RX2 30 "StakeWeirs$Weir" "open" "Z", Cond.fieldLink RX2 34 "StakeWeirs$Weir" "owed" "I", Cond.methodLink RL 79 yX5_weir, Cond.instanceMethod yX5_weir, Cond.selects RX5 yX5_weir yX5_weir, Cond.code yX5_weir cX5_weir 4 (some .int), Cond.fieldLink RX5 31 "StakeWeirsModel" "thrown" "I", Cond.fieldLink RX5 35 "StakeWeirsModel" "weirs" "I", Cond.methodLink RX5 38 yX5_isIn]
def wsL_law0_r6 : List Cond := [Cond.static yX5_isIn, Cond.code yX5_isIn cX5_isIn 3 (some .boolean), Cond.methodLink RX5 45 yX5_no, Cond.instanceMethod yX5_no, Cond.selects RX5 yX5_no yX5_no, Cond.code yX5_no cX5_no 2 (some .int), Cond.methodLink RL 80 yX5_thrown, Cond.instanceMethod yX5_thrown, Cond.selects RX5 yX5_thrown yX5_thrown, Cond.code yX5_thrown cX5_thrown 1 (some .int), Cond.methodLink RL 84 yL_gate, Cond.static yL_gate, Cond.codeWith yL_gate cL_gate 4 (some .int) [(0, 16, 19, 21), (0, 16, 22, 15)], Cond.classLink RL 21 "java/lang/IndexOutOfBoundsException", Cond.methodLink RL 17 yX3_gate, Cond.instanceMethod yX3_gate, Cond.selects RX3 yX3_gate yX3_gate, Cond.code yX3_gate cX3_gate 3 (some .boolean), Cond.classLink RX3 47 "java/lang/IndexOutOfBoundsException", Cond.initialized "java/lang/IndexOutOfBoundsException", Cond.fieldLink RX3 60 "StakeWeirs$Weir" "open" "Z", Cond.methodLink RX3 43 yX1_weirAt, Cond.methodLink RX3 52 yX2_isHeld, Cond.instanceMethod yX2_isHeld]
def wsL_law0_r7 : List Cond := [Cond.selects RX2 yX2_isHeld yX2_isHeld, Cond.code yX2_isHeld cX2_isHeld 1 (some .boolean), Cond.methodLink RL 87 yX5_gate, Cond.instanceMethod yX5_gate, Cond.selects RX5 yX5_gate yX5_gate, Cond.code yX5_gate cX5_gate 2 (some .boolean), Cond.methodLink RX5 58 yX5_isWeir, Cond.instanceMethod yX5_isWeir, Cond.selects RX5 yX5_isWeir yX5_isWeir, Cond.code yX5_isWeir cX5_isWeir 2 (some .boolean), Cond.methodLink RX5 62 yX4_isHeld, Cond.instanceMethod yX4_isHeld, Cond.selects RX4 yX4_isHeld yX4_isHeld, Cond.code yX4_isHeld cX4_isHeld 2 (some .boolean), Cond.methodLink RL 88 yL_mend, Cond.static yL_mend, Cond.codeWith yL_mend cL_mend 5 (some .int) [(0, 10, 13, 21), (0, 10, 17, 13), (0, 10, 21, 15)], Cond.methodLink RL 23 yX3_mend, Cond.instanceMethod yX3_mend, Cond.selects RX3 yX3_mend yX3_mend, Cond.code yX3_mend cX3_mend 5 (some .int), Cond.fieldLink RX3 66 "StakeWeirs$Weir" "wattle" "I", Cond.fieldLink RX3 69 "StakeWeirs$Weir" "coins" "I", Cond.methodLink RL 91 yX5_mend]
def wsL_law0_r8 : List Cond := [Cond.instanceMethod yX5_mend, Cond.selects RX5 yX5_mend yX5_mend, Cond.code yX5_mend cX5_mend 4 (some .int), Cond.methodLink RL 92 yL_drive, Cond.static yL_drive, Cond.codeWith yL_drive cL_drive 5 (some .int) [(0, 10, 13, 21), (0, 10, 17, 13), (0, 10, 21, 15)], Cond.methodLink RL 27 yX3_drive, Cond.instanceMethod yX3_drive, Cond.selects RX3 yX3_drive yX3_drive, Cond.code yX3_drive cX3_drive 5 (some .int), Cond.fieldLink RX3 76 "StakeWeirs$Weir" "stakes" "I", Cond.methodLink RL 94 yX5_drive, Cond.instanceMethod yX5_drive, Cond.selects RX5 yX5_drive yX5_drive, Cond.code yX5_drive cX5_drive 3 (some .int), Cond.methodLink RL 95 yL_sell, Cond.static yL_sell, Cond.codeWith yL_sell cL_sell 4 (some .int) [(0, 9, 12, 21), (0, 9, 15, 15)], Cond.methodLink RL 30 yX3_sell, Cond.instanceMethod yX3_sell, Cond.selects RX3 yX3_sell yX3_sell, Cond.code yX3_sell cX3_sell 4 (some .int), Cond.fieldLink RX3 81 "StakeWeirs$Weir" "eels" "I", Cond.methodLink RX3 86 yX1_moon]
def wsL_law0_r9 : List Cond := [Cond.instanceMethod yX1_moon, Cond.selects RX1 yX1_moon yX1_moon, Cond.code yX1_moon cX1_moon 2 (some .int), Cond.fieldLink RX1 62 "StakeWeirs$Estuary" "night" "I", Cond.methodLink RX1 101 yJ9_floorMod_7cf53, Cond.static yJ9_floorMod_7cf53, Cond.initialized RJ9, Cond.code yJ9_floorMod_7cf53 cJ9_floorMod_7cf53 3 (some .int), Cond.methodLink RX3 90 yX3_priceOfEels, Cond.static yX3_priceOfEels, Cond.code yX3_priceOfEels cX3_priceOfEels 2 (some .int), Cond.methodLink RL 97 yX5_sell, Cond.instanceMethod yX5_sell, Cond.selects RX5 yX5_sell yX5_sell, Cond.code yX5_sell cX5_sell 4 (some .int), Cond.methodLink RX5 71 yX4_moon, Cond.instanceMethod yX4_moon, Cond.selects RX4 yX4_moon yX4_moon, Cond.code yX4_moon cX4_moon 2 (some .int), Cond.fieldLink RX4 52 "StakeWeirsModel$State" "night" "I", Cond.methodLink RL 98 yL_setRun, Cond.static yL_setRun, Cond.codeWith yL_setRun cL_setRun 5 (some .int) [(0, 10, 13, 21), (0, 10, 17, 13)], Cond.methodLink RL 34 yX3_setRun]
def wsL_law0_r10 : List Cond := [Cond.instanceMethod yX3_setRun, Cond.selects RX3 yX3_setRun yX3_setRun, Cond.code yX3_setRun cX3_setRun 4 (some .int), Cond.methodLink RX3 98 yX1_tableEels, Cond.instanceMethod yX1_tableEels, Cond.selects RX1 yX1_tableEels yX1_tableEels, Cond.code yX1_tableEels cX1_tableEels 2 (some .int), Cond.methodLink RX3 102 yX1_setTableEels, Cond.instanceMethod yX1_setTableEels, Cond.selects RX1 yX1_setTableEels yX1_setTableEels, Cond.code yX1_setTableEels cX1_setTableEels 3 none, Cond.methodLink RL 100 yX5_setRun, Cond.instanceMethod yX5_setRun, Cond.selects RX5 yX5_setRun yX5_setRun, Cond.code yX5_setRun cX5_setRun 4 (some .int), Cond.methodLink RL 101 yL_barge, Cond.static yL_barge, Cond.codeWith yL_barge cL_barge 4 (some .int) [(0, 9, 12, 13), (0, 9, 15, 15)], Cond.methodLink RL 37 yX3_barge, Cond.instanceMethod yX3_barge, Cond.selects RX3 yX3_barge yX3_barge, Cond.code yX3_barge cX3_barge 2 (some .int), Cond.fieldLink RX3 108 "StakeWeirs$Estuary" "bargeCount" "I", Cond.methodLink RX3 113 yX1_addBarge]
def wsL_law0_r11 : List Cond := [Cond.instanceMethod yX1_addBarge, Cond.selects RX1 yX1_addBarge yX1_addBarge, Cond.code yX1_addBarge cX1_addBarge 4 (some .int), Cond.fieldLink RX1 51 "StakeWeirs$Estuary" "bargeCount" "I", Cond.fieldLink RX1 65 "StakeWeirs$Estuary" "arrived" "I", Cond.methodLink RX1 54 yX1_bargeAt, Cond.instanceMethod yX1_bargeAt, Cond.selects RX1 yX1_bargeAt yX1_bargeAt, Cond.code yX1_bargeAt cX1_bargeAt 3 (some (.object "StakeWeirs$Barge")), Cond.methodLink RX1 96 yX0_makeNew, Cond.instanceMethod yX0_makeNew, Cond.selects RX0 yX0_makeNew yX0_makeNew, Cond.code yX0_makeNew cX0_makeNew 3 none, Cond.fieldLink RX0 9 "StakeWeirs$Barge" "ticket" "I", Cond.fieldLink RX0 15 "StakeWeirs$Barge" "wide" "I", Cond.fieldLink RX0 18 "StakeWeirs$Barge" "place" "I", Cond.fieldLink RX0 21 "StakeWeirs$Barge" "broken" "I", Cond.methodLink RL 103 yX5_barge, Cond.instanceMethod yX5_barge, Cond.selects RX5 yX5_barge yX5_barge, Cond.code yX5_barge cX5_barge 2 (some .int), Cond.methodLink RL 104 yL_about, Cond.static yL_about, Cond.codeWith yL_about cL_about 5 (some .int) [(0, 10, 13, 21)]]
def wsL_law0_r12 : List Cond := [Cond.methodLink RL 40 yX3_about, Cond.instanceMethod yX3_about, Cond.selects RX3 yX3_about yX3_about, Cond.code yX3_about cX3_about 4 (some .int), Cond.methodLink RX3 118 yX2_fact, Cond.instanceMethod yX2_fact, Cond.selects RX2 yX2_fact yX2_fact, Cond.code yX2_fact cX2_fact 2 (some .int), Cond.methodLink RL 106 yX5_about, Cond.instanceMethod yX5_about, Cond.selects RX5 yX5_about yX5_about, Cond.code yX5_about cX5_about 3 (some .int), Cond.methodLink RX5 87 yX5_weirTold, Cond.instanceMethod yX5_weirTold, Cond.selects RX5 yX5_weirTold yX5_weirTold, Cond.code yX5_weirTold cX5_weirTold 4 (some .int), Cond.methodLink RL 107 yL_told, Cond.static yL_told, Cond.codeWith yL_told cL_told 5 (some .int) [(0, 10, 13, 21)], Cond.methodLink RL 43 yX3_told, Cond.instanceMethod yX3_told, Cond.selects RX3 yX3_told yX3_told, Cond.code yX3_told cX3_told 4 (some .int), Cond.methodLink RX3 121 yX1_bargeAt]
def wsL_law0_r13 : List Cond := [Cond.methodLink RX3 127 yX1_bargeFact, Cond.instanceMethod yX1_bargeFact, Cond.selects RX1 yX1_bargeFact yX1_bargeFact, Cond.code yX1_bargeFact cX1_bargeFact 3 (some .int), Cond.fieldLink RX1 120 "StakeWeirs$Barge" "wide" "I", Cond.fieldLink RX1 123 "StakeWeirs$Barge" "place" "I", Cond.fieldLink RX1 124 "StakeWeirs$Barge" "broken" "I", Cond.methodLink RX1 127 yX1_nextInWay, Cond.instanceMethod yX1_nextInWay, Cond.selects RX1 yX1_nextInWay yX1_nextInWay, Cond.code yX1_nextInWay cX1_nextInWay 6 (some .int), Cond.methodLink RX1 141 yX2_isInWay, Cond.instanceMethod yX2_isInWay, Cond.selects RX2 yX2_isInWay yX2_isInWay, Cond.code yX2_isInWay cX2_isInWay 2 (some .boolean), Cond.methodLink RX2 37 yX2_isFishing, Cond.instanceMethod yX2_isFishing, Cond.selects RX2 yX2_isFishing yX2_isFishing, Cond.code yX2_isFishing cX2_isFishing 1 (some .boolean), Cond.methodLink RL 109 yX5_told, Cond.instanceMethod yX5_told, Cond.selects RX5 yX5_told yX5_told, Cond.code yX5_told cX5_told 3 (some .int), Cond.methodLink RX5 98 yX5_isBarge]
def wsL_law0_r14 : List Cond := [Cond.instanceMethod yX5_isBarge, Cond.selects RX5 yX5_isBarge yX5_isBarge, Cond.code yX5_isBarge cX5_isBarge 2 (some .boolean), Cond.methodLink RX5 101 yX5_bargeTold, Cond.instanceMethod yX5_bargeTold, Cond.selects RX5 yX5_bargeTold yX5_bargeTold, Cond.code yX5_bargeTold cX5_bargeTold 3 (some .int), Cond.methodLink RX5 95 yX5_nextFor, Cond.instanceMethod yX5_nextFor, Cond.selects RX5 yX5_nextFor yX5_nextFor, Cond.code yX5_nextFor cX5_nextFor 4 (some .int), Cond.methodLink RX5 91 yX4_isInWay, Cond.instanceMethod yX4_isInWay, Cond.selects RX4 yX4_isInWay yX4_isInWay, Cond.code yX4_isInWay cX4_isInWay 3 (some .boolean), Cond.methodLink RX4 79 yX4_isHeld, Cond.methodLink RL 110 yL_count, Cond.static yL_count, Cond.codeWith yL_count cL_count 4 (some .int) [(0, 9, 12, 21)], Cond.methodLink RL 46 yX3_count, Cond.instanceMethod yX3_count, Cond.selects RX3 yX3_count yX3_count, Cond.code yX3_count cX3_count 2 (some .int), Cond.methodLink RX3 133 yX1_fact]
def wsL_law0_r15 : List Cond := [Cond.instanceMethod yX1_fact, Cond.selects RX1 yX1_fact yX1_fact, Cond.code yX1_fact cX1_fact 2 (some .int), Cond.fieldLink RX1 68 "StakeWeirs$Estuary" "fines" "I", Cond.fieldLink RX1 71 "StakeWeirs$Estuary" "rents" "I", Cond.methodLink RX1 107 yX1_moon, Cond.methodLink RX1 111 yX1_run, Cond.instanceMethod yX1_run, Cond.selects RX1 yX1_run yX1_run, Cond.code yX1_run cX1_run 3 (some .int), Cond.methodLink RX1 32 yX1_tableEels, Cond.methodLink RX1 114 yX1_heldWeirs, Cond.instanceMethod yX1_heldWeirs, Cond.selects RX1 yX1_heldWeirs yX1_heldWeirs, Cond.code yX1_heldWeirs cX1_heldWeirs 4 (some .int), Cond.methodLink RX1 131 yX2_isHeld, Cond.methodLink RX1 117 yX1_allEels, Cond.instanceMethod yX1_allEels, Cond.selects RX1 yX1_allEels yX1_allEels, Cond.code yX1_allEels cX1_allEels 4 (some .int), Cond.fieldLink RX1 138 "StakeWeirs$Weir" "eels" "I", Cond.methodLink RL 112 yX5_count, Cond.instanceMethod yX5_count, Cond.selects RX5 yX5_count yX5_count]
def wsL_law0_r16 : List Cond := [Cond.code yX5_count cX5_count 2 (some .int), Cond.methodLink RX5 104 yX4_counted, Cond.instanceMethod yX4_counted, Cond.selects RX4 yX4_counted yX4_counted, Cond.code yX4_counted cX4_counted 3 (some .int), Cond.fieldLink RX4 56 "StakeWeirsModel$State" "barges" "I", Cond.fieldLink RX4 59 "StakeWeirsModel$State" "arrived" "I", Cond.fieldLink RX4 62 "StakeWeirsModel$State" "fines" "I", Cond.fieldLink RX4 65 "StakeWeirsModel$State" "rents" "I", Cond.methodLink RX4 75 yX4_moon, Cond.methodLink RX4 83 yX4_run, Cond.instanceMethod yX4_run, Cond.selects RX4 yX4_run yX4_run, Cond.code yX4_run cX4_run 1 (some .int), Cond.methodLink RX4 128 yX4_held, Cond.instanceMethod yX4_held, Cond.selects RX4 yX4_held yX4_held, Cond.code yX4_held cX4_held 3 (some .int), Cond.methodLink RX4 131 yX4_allEels, Cond.instanceMethod yX4_allEels, Cond.selects RX4 yX4_allEels yX4_allEels, Cond.code yX4_allEels cX4_allEels 3 (some .int), Cond.methodLink RL 113 yL_hinders, Cond.static yL_hinders]
def wsL_law0_r17 : List Cond := [Cond.codeWith yL_hinders cL_hinders 4 (some .int) [(0, 9, 12, 13)], Cond.methodLink RL 49 yX3_hinders, Cond.instanceMethod yX3_hinders, Cond.selects RX3 yX3_hinders yX3_hinders, Cond.code yX3_hinders cX3_hinders 2 (some .int), Cond.methodLink RX3 134 yX1_weirsInWay, Cond.instanceMethod yX1_weirsInWay, Cond.selects RX1 yX1_weirsInWay yX1_weirsInWay, Cond.code yX1_weirsInWay cX1_weirsInWay 5 (some .int), Cond.methodLink RL 115 yX5_hinders, Cond.instanceMethod yX5_hinders, Cond.selects RX5 yX5_hinders yX5_hinders, Cond.code yX5_hinders cX5_hinders 4 (some .int), Cond.methodLink RL 116 yX3_richest, Cond.instanceMethod yX3_richest, Cond.selects RX3 yX3_richest yX3_richest, Cond.code yX3_richest cX3_richest 1 (some .int), Cond.methodLink RX3 137 yX1_richestHeld, Cond.instanceMethod yX1_richestHeld, Cond.selects RX1 yX1_richestHeld yX1_richestHeld, Cond.code yX1_richestHeld cX1_richestHeld 5 (some .int), Cond.fieldLink RX1 145 "StakeWeirs$Weir" "coins" "I", Cond.methodLink RL 119 yX5_richest, Cond.instanceMethod yX5_richest]
def wsL_law0_r18 : List Cond := [Cond.selects RX5 yX5_richest yX5_richest, Cond.code yX5_richest cX5_richest 3 (some .int), Cond.methodLink RL 120 yL_pass, Cond.static yL_pass, Cond.codeWith yL_pass cL_pass 4 (some .int) [(0, 9, 12, 13)], Cond.methodLink RL 52 yX3_pass, Cond.instanceMethod yX3_pass, Cond.selects RX3 yX3_pass yX3_pass, Cond.code yX3_pass cX3_pass 3 (some .int), Cond.fieldLink RX3 142 "StakeWeirs$Estuary" "arrived" "I", Cond.methodLink RX3 145 yX1_goThroughNights, Cond.instanceMethod yX1_goThroughNights, Cond.selects RX1 yX1_goThroughNights yX1_goThroughNights, Cond.code yX1_goThroughNights cX1_goThroughNights 3 none, Cond.methodLink RX1 148 yX1_catchEels, Cond.instanceMethod yX1_catchEels, Cond.selects RX1 yX1_catchEels yX1_catchEels, Cond.code yX1_catchEels cX1_catchEels 4 none, Cond.methodLink RX1 36 yX1_inOrder, Cond.instanceMethod yX1_inOrder, Cond.selects RX1 yX1_inOrder yX1_inOrder, Cond.code yX1_inOrder cX1_inOrder 2 (some .int), Cond.methodLink RX1 163 yX2_isFishing, Cond.methodLink RX1 166 yX2_catchOf]
def wsL_law0_r19 : List Cond := [Cond.instanceMethod yX2_catchOf, Cond.selects RX2 yX2_catchOf yX2_catchOf, Cond.code yX2_catchOf cX2_catchOf 3 (some .int), Cond.methodLink RX2 41 Lib.Math.min.name, Cond.static Lib.Math.min.name, Cond.initialized "java/lang/Math", Cond.code Lib.Math.min.name Lib.Math.min.code 2 (some .int), Cond.methodLink RX1 151 yX1_moveBarges, Cond.instanceMethod yX1_moveBarges, Cond.selects RX1 yX1_moveBarges yX1_moveBarges, Cond.code yX1_moveBarges cX1_moveBarges 4 none, Cond.methodLink RX1 169 yX0_goOn, Cond.instanceMethod yX0_goOn, Cond.selects RX0 yX0_goOn yX0_goOn, Cond.code yX0_goOn cX0_goOn 2 none, Cond.methodLink RX0 24 Lib.Math.min.name, Cond.methodLink RX1 173 yX1_breakThrough, Cond.instanceMethod yX1_breakThrough, Cond.selects RX1 yX1_breakThrough yX1_breakThrough, Cond.code yX1_breakThrough cX1_breakThrough 4 none, Cond.methodLink RX1 176 yX2_breakFor, Cond.instanceMethod yX2_breakFor, Cond.selects RX2 yX2_breakFor yX2_breakFor, Cond.code yX2_breakFor cX2_breakFor 3 (some .int)]
def wsL_law0_r20 : List Cond := [Cond.methodLink RX2 47 yX2_loseWattle, Cond.instanceMethod yX2_loseWattle, Cond.selects RX2 yX2_loseWattle yX2_loseWattle, Cond.code yX2_loseWattle cX2_loseWattle 2 none, Cond.methodLink RX1 154 yX1_leaveOutArrived, Cond.instanceMethod yX1_leaveOutArrived, Cond.selects RX1 yX1_leaveOutArrived yX1_leaveOutArrived, Cond.code yX1_leaveOutArrived cX1_leaveOutArrived 4 none, Cond.methodLink RX1 58 yX1_copyBarge, Cond.static yX1_copyBarge, Cond.code yX1_copyBarge cX1_copyBarge 2 none, Cond.methodLink RX1 78 yX0_copyFrom, Cond.instanceMethod yX0_copyFrom, Cond.selects RX0 yX0_copyFrom yX0_copyFrom, Cond.code yX0_copyFrom cX0_copyFrom 2 none, Cond.methodLink RX1 157 yX1_rotWattle, Cond.instanceMethod yX1_rotWattle, Cond.selects RX1 yX1_rotWattle yX1_rotWattle, Cond.code yX1_rotWattle cX1_rotWattle 4 none, Cond.methodLink RX1 179 yX2_loseWattle, Cond.methodLink RX1 160 yX1_collectRents, Cond.instanceMethod yX1_collectRents, Cond.selects RX1 yX1_collectRents yX1_collectRents, Cond.code yX1_collectRents cX1_collectRents 3 none]
def wsL_law0_r21 : List Cond := [Cond.methodLink RX1 182 yX2_payRent, Cond.instanceMethod yX2_payRent, Cond.selects RX2 yX2_payRent yX2_payRent, Cond.code yX2_payRent cX2_payRent 1 (some .int), Cond.methodLink RL 122 yX5_pass, Cond.instanceMethod yX5_pass, Cond.selects RX5 yX5_pass yX5_pass, Cond.code yX5_pass cX5_pass 3 (some .int), Cond.methodLink RX5 110 yX4_pass_, Cond.instanceMethod yX4_pass_, Cond.selects RX4 yX4_pass_ yX4_pass_, Cond.code yX4_pass_ cX4_pass_ 3 none, Cond.methodLink RX4 125 yX4_pass, Cond.instanceMethod yX4_pass, Cond.selects RX4 yX4_pass yX4_pass, Cond.code yX4_pass cX4_pass 2 none, Cond.methodLink RX4 102 Lib.Math.max.name, Cond.static Lib.Math.max.name, Cond.code Lib.Math.max.name Lib.Math.max.code 2 (some .int), Cond.methodLink RX4 111 yX4_runDown, Cond.instanceMethod yX4_runDown, Cond.selects RX4 yX4_runDown yX4_runDown, Cond.code yX4_runDown cX4_runDown 7 (some .int), Cond.methodLink RX4 92 Lib.Math.min.name]
def wsL_law0_r22 : List Cond := [Cond.methodLink RX4 115 yX4_goUp, Cond.instanceMethod yX4_goUp, Cond.selects RX4 yX4_goUp yX4_goUp, Cond.code yX4_goUp cX4_goUp 3 none, Cond.methodLink RX4 105 yX4_breaks, Cond.instanceMethod yX4_breaks, Cond.selects RX4 yX4_breaks yX4_breaks, Cond.code yX4_breaks cX4_breaks 5 (some .boolean), Cond.methodLink RX4 98 yX4_isInWay, Cond.methodLink RX4 119 yX4_leave, Cond.instanceMethod yX4_leave, Cond.selects RX4 yX4_leave yX4_leave, Cond.code yX4_leave cX4_leave 3 none, Cond.methodLink RX4 122 yX4_payRent, Cond.instanceMethod yX4_payRent, Cond.selects RX4 yX4_payRent yX4_payRent, Cond.code yX4_payRent cX4_payRent 2 none, Cond.methodLink RL 123 yL_catches, Cond.static yL_catches, Cond.codeWith yL_catches cL_catches 4 (some .int) [(0, 9, 12, 21)], Cond.methodLink RL 55 yX3_catches, Cond.instanceMethod yX3_catches, Cond.selects RX3 yX3_catches yX3_catches, Cond.code yX3_catches cX3_catches 4 (some .int)]
def wsL_law0_r23 : List Cond := [Cond.methodLink RX3 149 yX1_copyFrom, Cond.instanceMethod yX1_copyFrom, Cond.selects RX1 yX1_copyFrom yX1_copyFrom, Cond.code yX1_copyFrom cX1_copyFrom 3 none, Cond.methodLink RX1 47 yX1_copyWeir, Cond.static yX1_copyWeir, Cond.code yX1_copyWeir cX1_copyWeir 2 none, Cond.methodLink RX1 74 yX2_copyFrom, Cond.instanceMethod yX2_copyFrom, Cond.selects RX2 yX2_copyFrom yX2_copyFrom, Cond.code yX2_copyFrom cX2_copyFrom 2 none, Cond.methodLink RX3 153 yX1_catchEels, Cond.methodLink RL 125 yX5_catches, Cond.instanceMethod yX5_catches, Cond.selects RX5 yX5_catches yX5_catches, Cond.code yX5_catches cX5_catches 2 (some .int), Cond.methodLink RX5 114 yX4_become, Cond.instanceMethod yX4_become, Cond.selects RX4 yX4_become yX4_become, Cond.code yX4_become cX4_become 3 (some (.object "StakeWeirsModel$State")), Cond.methodLink RX4 68 yX4_copy, Cond.instanceMethod yX4_copy, Cond.selects RX4 yX4_copy yX4_copy, Cond.code yX4_copy cX4_copy 3 none]
def wsL_law0_r24 : List Cond := [Cond.methodLink RX4 46 arraycopyName, Cond.native arraycopyName, Cond.static arraycopyName, Cond.initialized "java/lang/System", Cond.methodLink RX5 118 yX4_runDown, Cond.methodLink RL 126 yL_arrives, Cond.static yL_arrives, Cond.codeWith yL_arrives cL_arrives 4 (some .int) [(0, 9, 12, 21)], Cond.methodLink RL 58 yX3_arrives, Cond.instanceMethod yX3_arrives, Cond.selects RX3 yX3_arrives yX3_arrives, Cond.code yX3_arrives cX3_arrives 4 (some .int), Cond.fieldLink RX3 158 "StakeWeirs$Barge" "ticket" "I", Cond.methodLink RX3 163 yX1_isUnderWay, Cond.instanceMethod yX1_isUnderWay, Cond.selects RX1 yX1_isUnderWay yX1_isUnderWay, Cond.code yX1_isUnderWay cX1_isUnderWay 4 (some .boolean), Cond.fieldLink RX1 98 "StakeWeirs$Barge" "ticket" "I", Cond.methodLink RL 128 yX5_arrives, Cond.instanceMethod yX5_arrives, Cond.selects RX5 yX5_arrives yX5_arrives, Cond.code yX5_arrives cX5_arrives 3 (some .int), Cond.methodLink RX5 124 yX5_isUnderWay, Cond.instanceMethod yX5_isUnderWay]
def wsL_law0_r25 : List Cond := [Cond.selects RX5 yX5_isUnderWay yX5_isUnderWay, Cond.code yX5_isUnderWay cX5_isUnderWay 3 (some .boolean), Cond.methodLink RX5 127 yX4_pass, Cond.methodLink RL 129 yL_lasts, Cond.static yL_lasts, Cond.codeWith yL_lasts cL_lasts 4 (some .int) [(0, 9, 12, 21)], Cond.methodLink RL 61 yX3_lasts, Cond.instanceMethod yX3_lasts, Cond.selects RX3 yX3_lasts yX3_lasts, Cond.code yX3_lasts cX3_lasts 4 (some .int), Cond.methodLink RL 131 yX5_lasts, Cond.instanceMethod yX5_lasts, Cond.selects RX5 yX5_lasts yX5_lasts, Cond.code yX5_lasts cX5_lasts 3 (some .int), Cond.methodLink RL 132 yL_foresee, Cond.static yL_foresee, Cond.codeWith yL_foresee cL_foresee 5 (some .int) [(0, 10, 13, 13), (0, 10, 17, 21)], Cond.methodLink RL 64 yX3_foresee, Cond.instanceMethod yX3_foresee, Cond.selects RX3 yX3_foresee yX3_foresee, Cond.code yX3_foresee cX3_foresee 3 (some .int), Cond.methodLink RL 134 yX5_foresee, Cond.instanceMethod yX5_foresee, Cond.selects RX5 yX5_foresee yX5_foresee]
def wsL_law0_r26 : List Cond := [Cond.code yX5_foresee cX5_foresee 3 (some .int), Cond.methodLink RL 135 yL_advise, Cond.static yL_advise, Cond.codeWith yL_advise cL_advise 5 (some .int) [(0, 10, 13, 21), (0, 10, 17, 13)], Cond.methodLink RL 67 yX3_advise, Cond.instanceMethod yX3_advise, Cond.selects RX3 yX3_advise yX3_advise, Cond.code yX3_advise cX3_advise 8 (some .int), Cond.methodLink RX3 173 yX2_isFishing, Cond.methodLink RX3 176 yX3_eelsWithStakes, Cond.instanceMethod yX3_eelsWithStakes, Cond.selects RX3 yX3_eelsWithStakes yX3_eelsWithStakes, Cond.code yX3_eelsWithStakes cX3_eelsWithStakes 5 (some .int), Cond.methodLink RL 137 yX5_advise, Cond.instanceMethod yX5_advise, Cond.selects RX5 yX5_advise yX5_advise, Cond.code yX5_advise cX5_advise 6 (some .int), Cond.methodLink RL 138 yX3_mean, Cond.instanceMethod yX3_mean, Cond.selects RX3 yX3_mean yX3_mean, Cond.code yX3_mean cX3_mean 2 (some .double), Cond.methodLink RX3 179 yX1_heldWeirs, Cond.methodLink RX3 182 yX1_heldWattle, Cond.instanceMethod yX1_heldWattle]
def wsL_law0_r27 : List Cond := [Cond.selects RX1 yX1_heldWattle yX1_heldWattle, Cond.code yX1_heldWattle cX1_heldWattle 4 (some .int), Cond.fieldLink RX1 135 "StakeWeirs$Weir" "wattle" "I", Cond.methodLink RL 142 yX5_mean, Cond.instanceMethod yX5_mean, Cond.selects RX5 yX5_mean yX5_mean, Cond.code yX5_mean cX5_mean 3 (some .double), Cond.methodLink RX5 129 yX4_held, Cond.methodLink RL 143 yX3_digest, Cond.instanceMethod yX3_digest, Cond.selects RX3 yX3_digest yX3_digest, Cond.code yX3_digest cX3_digest 4 (some .long), Cond.constantLong RX3 185 (1409), Cond.constantLong RX3 187 (31), Cond.methodLink RX3 189 yX3_digestOfWeirs, Cond.instanceMethod yX3_digestOfWeirs, Cond.selects RX3 yX3_digestOfWeirs yX3_digestOfWeirs, Cond.code yX3_digestOfWeirs cX3_digestOfWeirs 8 (some .long), Cond.methodLink RX3 193 yX3_digestOfBarges, Cond.instanceMethod yX3_digestOfBarges, Cond.selects RX3 yX3_digestOfBarges yX3_digestOfBarges, Cond.code yX3_digestOfBarges cX3_digestOfBarges 8 (some .long), Cond.methodLink RL 147 yX5_digest, Cond.instanceMethod yX5_digest]
def wsL_law0_r28 : List Cond := [Cond.selects RX5 yX5_digest yX5_digest, Cond.code yX5_digest cX5_digest 7 (some .long), Cond.constantLong RX5 132 (1409), Cond.constantLong RX5 134 (31)]
def wsL_law0 : List Cond := (wsL_law0_r1 ++ (wsL_law0_r2 ++ (wsL_law0_r3 ++ (wsL_law0_r4 ++ (wsL_law0_r5 ++ (wsL_law0_r6 ++ (wsL_law0_r7 ++ (wsL_law0_r8 ++ (wsL_law0_r9 ++ (wsL_law0_r10 ++ (wsL_law0_r11 ++ (wsL_law0_r12 ++ (wsL_law0_r13 ++ (wsL_law0_r14 ++ (wsL_law0_r15 ++ (wsL_law0_r16 ++ (wsL_law0_r17 ++ (wsL_law0_r18 ++ (wsL_law0_r19 ++ (wsL_law0_r20 ++ (wsL_law0_r21 ++ (wsL_law0_r22 ++ (wsL_law0_r23 ++ (wsL_law0_r24 ++ (wsL_law0_r25 ++ (wsL_law0_r26 ++ (wsL_law0_r27 ++ wsL_law0_r28))))))))))))))))))))))))))) ++ wsX30 ++ wsX50 ++ wsX10 ++ wsX20 ++ wsX00 ++ wsX40 ++ ([] : List Cond)
def wsL_law : List Cond := wsL_law0 ++ (vx_atS RX3 27 "java/lang/IllegalArgumentException" ["java/lang/RuntimeException", "java/lang/Exception"]).filter goodWord ++ (vx_atS RX3 38 "java/lang/IllegalStateException" ["java/lang/RuntimeException", "java/lang/Exception"]).filter goodWord ++ (vx_atS RX3 51 "java/lang/IndexOutOfBoundsException" ["java/lang/RuntimeException", "java/lang/Exception"]).filter goodWord
set_option maxRecDepth 20000 in
theorem wsL_law_in0 : ∀ w ∈ wsL_law0, w ∈ lw_tbl := fun w h => (goodIn_p wsL_law0 [46, 49, 54, 61, 103, 627, 633, 264, 267, 355, 359, 363, 175, 367, 729, 732, 736, 725, 375, 179, 740, 744, 748, 400, 752, 409, 756, 418, 205, 208, 423, 760, 764, 430, 216, 436, 768, 443, 449, 239, 454, 772, 461, 231, 776, 780, 469, 243, 247, 251, 255, 784, 788, 792, 796, 800, 477, 201, 212, 187, 221, 805, 809, 814, 818, 822, 485, 489, 826, 167, 171, 830, 496, 501, 505, 509, 514, 517, 521, 525, 530, 534, 538, 542, 545, 549, 553, 558, 562, 834, 838, 842, 859, 846, 851, 855, 863, 867, 569, 573, 576, 580, 871, 875, 879, 588, 593, 887, 891, 600, 896, 607, 900, 616, 622, 904, 183, 191, 908, 195, 226, 235, 913] (by decide +kernel) (by decide +kernel) w h).1
theorem wsL_law_x0 : ∀ w ∈ (vx_atS RX3 27 "java/lang/IllegalArgumentException" ["java/lang/RuntimeException", "java/lang/Exception"]).filter goodWord, w ∈ lw_tbl := by decide +kernel
theorem wsL_law_x1 : ∀ w ∈ (vx_atS RX3 38 "java/lang/IllegalStateException" ["java/lang/RuntimeException", "java/lang/Exception"]).filter goodWord, w ∈ lw_tbl := by decide +kernel
theorem wsL_law_x2 : ∀ w ∈ (vx_atS RX3 51 "java/lang/IndexOutOfBoundsException" ["java/lang/RuntimeException", "java/lang/Exception"]).filter goodWord, w ∈ lw_tbl := by decide +kernel
theorem wsL_law_in : ∀ w ∈ wsL_law, w ∈ lw_tbl := fun w h => (List.mem_append.mp h).elim (fun h => (List.mem_append.mp h).elim (fun h => (List.mem_append.mp h).elim (fun h => wsL_law_in0 w h) (fun h => wsL_law_x0 w h)) (fun h => wsL_law_x1 w h)) (fun h => wsL_law_x2 w h)
theorem inlX0 : ∀ w ∈ wsX00, w ∈ wsL_law := fun _ h => List.mem_append_left _ (List.mem_append_left _ (List.mem_append_left _ (List.mem_append_left _ (List.mem_append_left _ (List.mem_append_right _ h)))))
theorem inX0 : ∀ w ∈ wsX00, w ∈ lw_tbl := fun w h => wsL_law_in w (inlX0 w h)
theorem inlX1 : ∀ w ∈ wsX10, w ∈ wsL_law := fun _ h => List.mem_append_left _ (List.mem_append_left _ (List.mem_append_left _ (List.mem_append_left _ (List.mem_append_left _ (List.mem_append_left _ (List.mem_append_left _ (List.mem_append_right _ h)))))))
theorem inX1 : ∀ w ∈ wsX10, w ∈ lw_tbl := fun w h => wsL_law_in w (inlX1 w h)
theorem inlX2 : ∀ w ∈ wsX20, w ∈ wsL_law := fun _ h => List.mem_append_left _ (List.mem_append_left _ (List.mem_append_left _ (List.mem_append_left _ (List.mem_append_left _ (List.mem_append_left _ (List.mem_append_right _ h))))))
theorem inX2 : ∀ w ∈ wsX20, w ∈ lw_tbl := fun w h => wsL_law_in w (inlX2 w h)
theorem inlX3 : ∀ w ∈ wsX30, w ∈ wsL_law := fun _ h => List.mem_append_left _ (List.mem_append_left _ (List.mem_append_left _ (List.mem_append_left _ (List.mem_append_left _ (List.mem_append_left _ (List.mem_append_left _ (List.mem_append_left _ (List.mem_append_left _ (List.mem_append_right _ h)))))))))
theorem inX3 : ∀ w ∈ wsX30, w ∈ lw_tbl := fun w h => wsL_law_in w (inlX3 w h)
theorem inlX4 : ∀ w ∈ wsX40, w ∈ wsL_law := fun _ h => List.mem_append_left _ (List.mem_append_left _ (List.mem_append_left _ (List.mem_append_left _ (List.mem_append_right _ h))))
theorem inX4 : ∀ w ∈ wsX40, w ∈ lw_tbl := fun w h => wsL_law_in w (inlX4 w h)
theorem inlX5 : ∀ w ∈ wsX50, w ∈ wsL_law := fun _ h => List.mem_append_left _ (List.mem_append_left _ (List.mem_append_left _ (List.mem_append_left _ (List.mem_append_left _ (List.mem_append_left _ (List.mem_append_left _ (List.mem_append_left _ (List.mem_append_right _ h))))))))
theorem inX5 : ∀ w ∈ wsX50, w ∈ lw_tbl := fun w h => wsL_law_in w (inlX5 w h)
theorem inJ9 : ∀ w ∈ wsJ90, w ∈ lw_tbl := by decide +kernel
theorem inJ0 : ∀ w ∈ wsJ00, w ∈ lw_tbl := by decide +kernel
theorem inJ10 : ∀ w ∈ wsJ100, w ∈ lw_tbl := by decide +kernel
theorem dX0_init_0 : decode cX0_init 0 = .ok (.aload_n 0, 1) := by decide +kernel
theorem dX0_init_1 : decode cX0_init 1 = .ok (.invokespecial 3, 3) := by decide +kernel
theorem dX0_init_4 : decode cX0_init 4 = .ok (.return_, 1) := by decide +kernel
theorem dX0_makeNew_0 : decode cX0_makeNew 0 = .ok (.aload_n 0, 1) := by decide +kernel
theorem dX0_makeNew_1 : decode cX0_makeNew 1 = .ok (.iload_n 1, 1) := by decide +kernel
theorem dX0_makeNew_2 : decode cX0_makeNew 2 = .ok (.putfield 9, 3) := by decide +kernel
theorem dX0_makeNew_5 : decode cX0_makeNew 5 = .ok (.aload_n 0, 1) := by decide +kernel
theorem dX0_makeNew_6 : decode cX0_makeNew 6 = .ok (.iload_n 2, 1) := by decide +kernel
theorem dX0_makeNew_7 : decode cX0_makeNew 7 = .ok (.putfield 15, 3) := by decide +kernel
theorem dX0_makeNew_10 : decode cX0_makeNew 10 = .ok (.aload_n 0, 1) := by decide +kernel
theorem dX0_makeNew_11 : decode cX0_makeNew 11 = .ok (.iconst (-1), 1) := by decide +kernel
theorem dX0_makeNew_12 : decode cX0_makeNew 12 = .ok (.putfield 18, 3) := by decide +kernel
theorem dX0_makeNew_15 : decode cX0_makeNew 15 = .ok (.aload_n 0, 1) := by decide +kernel
theorem dX0_makeNew_16 : decode cX0_makeNew 16 = .ok (.iconst 0, 1) := by decide +kernel
theorem dX0_makeNew_17 : decode cX0_makeNew 17 = .ok (.putfield 21, 3) := by decide +kernel
theorem dX0_makeNew_20 : decode cX0_makeNew 20 = .ok (.return_, 1) := by decide +kernel
theorem dX0_copyFrom_0 : decode cX0_copyFrom 0 = .ok (.aload_n 0, 1) := by decide +kernel
theorem dX0_copyFrom_1 : decode cX0_copyFrom 1 = .ok (.aload_n 1, 1) := by decide +kernel
theorem dX0_copyFrom_2 : decode cX0_copyFrom 2 = .ok (.getfield 9, 3) := by decide +kernel
theorem dX0_copyFrom_5 : decode cX0_copyFrom 5 = .ok (.putfield 9, 3) := by decide +kernel
theorem dX0_copyFrom_8 : decode cX0_copyFrom 8 = .ok (.aload_n 0, 1) := by decide +kernel
theorem dX0_copyFrom_9 : decode cX0_copyFrom 9 = .ok (.aload_n 1, 1) := by decide +kernel
theorem dX0_copyFrom_10 : decode cX0_copyFrom 10 = .ok (.getfield 15, 3) := by decide +kernel
theorem dX0_copyFrom_13 : decode cX0_copyFrom 13 = .ok (.putfield 15, 3) := by decide +kernel
theorem dX0_copyFrom_16 : decode cX0_copyFrom 16 = .ok (.aload_n 0, 1) := by decide +kernel
theorem dX0_copyFrom_17 : decode cX0_copyFrom 17 = .ok (.aload_n 1, 1) := by decide +kernel
theorem dX0_copyFrom_18 : decode cX0_copyFrom 18 = .ok (.getfield 18, 3) := by decide +kernel
theorem dX0_copyFrom_21 : decode cX0_copyFrom 21 = .ok (.putfield 18, 3) := by decide +kernel
theorem dX0_copyFrom_24 : decode cX0_copyFrom 24 = .ok (.aload_n 0, 1) := by decide +kernel
theorem dX0_copyFrom_25 : decode cX0_copyFrom 25 = .ok (.aload_n 1, 1) := by decide +kernel
theorem dX0_copyFrom_26 : decode cX0_copyFrom 26 = .ok (.getfield 21, 3) := by decide +kernel
theorem dX0_copyFrom_29 : decode cX0_copyFrom 29 = .ok (.putfield 21, 3) := by decide +kernel
theorem dX0_copyFrom_32 : decode cX0_copyFrom 32 = .ok (.return_, 1) := by decide +kernel
theorem dX0_goOn_0 : decode cX0_goOn 0 = .ok (.aload_n 0, 1) := by decide +kernel
theorem dX0_goOn_1 : decode cX0_goOn 1 = .ok (.aload_n 0, 1) := by decide +kernel
theorem dX0_goOn_2 : decode cX0_goOn 2 = .ok (.getfield 18, 3) := by decide +kernel
theorem dX0_goOn_5 : decode cX0_goOn 5 = .ok (.iconst 5, 1) := by decide +kernel
theorem dX0_goOn_6 : decode cX0_goOn 6 = .ok (.iadd, 1) := by decide +kernel
theorem dX0_goOn_7 : decode cX0_goOn 7 = .ok (.iload_n 1, 1) := by decide +kernel
theorem dX0_goOn_8 : decode cX0_goOn 8 = .ok (.invokestatic 24, 3) := by decide +kernel
theorem dX0_goOn_11 : decode cX0_goOn 11 = .ok (.putfield 18, 3) := by decide +kernel
theorem dX0_goOn_14 : decode cX0_goOn 14 = .ok (.return_, 1) := by decide +kernel
set_option maxRecDepth 20000 in
theorem ggX1_init_X2_init : GoodIn wsX1_init wsX2_init := goodIn_r _ [16, 17, 2, 3] (by decide +kernel) (by decide +kernel)
set_option maxRecDepth 20000 in
theorem gX1_init_X2_init_n24 : GoodIn wsX1_init (wsX2_init) := ggX1_init_X2_init
set_option maxRecDepth 20000 in
theorem ggX1_init_X0_init : GoodIn wsX1_init wsX0_init := goodIn_r _ [19, 20, 2, 3] (by decide +kernel) (by decide +kernel)
set_option maxRecDepth 20000 in
theorem gX1_init_X0_init_n31 : GoodIn wsX1_init (wsX0_init) := ggX1_init_X0_init
theorem dX1_init_0 : decode cX1_init 0 = .ok (.aload_n 0, 1) := by decide +kernel
theorem dX1_init_1 : decode cX1_init 1 = .ok (.invokespecial 3, 3) := by decide +kernel
theorem dX1_init_4 : decode cX1_init 4 = .ok (.aload_n 0, 1) := by decide +kernel
theorem dX1_init_5 : decode cX1_init 5 = .ok (.bipush 7, 2) := by decide +kernel
theorem dX1_init_7 : decode cX1_init 7 = .ok (.newarray .int, 2) := by decide +kernel
theorem dX1_init_9 : decode cX1_init 9 = .ok (.putfield 9, 3) := by decide +kernel
theorem dX1_init_12 : decode cX1_init 12 = .ok (.iconst 0, 1) := by decide +kernel
theorem dX1_init_13 : decode cX1_init 13 = .ok (.istore_n 1, 1) := by decide +kernel
theorem dX1_init_14 : decode cX1_init 14 = .ok (.iload_n 1, 1) := by decide +kernel
theorem dX1_init_15 : decode cX1_init 15 = .ok (.aload_n 0, 1) := by decide +kernel
theorem dX1_init_16 : decode cX1_init 16 = .ok (.getfield 9, 3) := by decide +kernel
theorem dX1_init_19 : decode cX1_init 19 = .ok (.arraylength, 1) := by decide +kernel
theorem dX1_init_20 : decode cX1_init 20 = .ok (.if_icmp .ge 17, 3) := by decide +kernel
theorem dX1_init_23 : decode cX1_init 23 = .ok (.aload_n 0, 1) := by decide +kernel
theorem dX1_init_24 : decode cX1_init 24 = .ok (.getfield 9, 3) := by decide +kernel
theorem dX1_init_27 : decode cX1_init 27 = .ok (.iload_n 1, 1) := by decide +kernel
theorem dX1_init_28 : decode cX1_init 28 = .ok (.bipush 30, 2) := by decide +kernel
theorem dX1_init_30 : decode cX1_init 30 = .ok (.iastore, 1) := by decide +kernel
theorem dX1_init_31 : decode cX1_init 31 = .ok (.iinc 1 1, 3) := by decide +kernel
theorem dX1_init_34 : decode cX1_init 34 = .ok (.goto (-20), 3) := by decide +kernel
theorem dX1_init_37 : decode cX1_init 37 = .ok (.aload_n 0, 1) := by decide +kernel
theorem dX1_init_38 : decode cX1_init 38 = .ok (.bipush 6, 2) := by decide +kernel
theorem dX1_init_40 : decode cX1_init 40 = .ok (.newarray .int, 2) := by decide +kernel
theorem dX1_init_42 : decode cX1_init 42 = .ok (.putfield 15, 3) := by decide +kernel
theorem dX1_init_45 : decode cX1_init 45 = .ok (.aload_n 0, 1) := by decide +kernel
theorem dX1_init_46 : decode cX1_init 46 = .ok (.bipush 6, 2) := by decide +kernel
theorem dX1_init_48 : decode cX1_init 48 = .ok (.anewarray 18, 3) := by decide +kernel
theorem dX1_init_51 : decode cX1_init 51 = .ok (.putfield 20, 3) := by decide +kernel
theorem dX1_init_54 : decode cX1_init 54 = .ok (.iconst 0, 1) := by decide +kernel
theorem dX1_init_55 : decode cX1_init 55 = .ok (.istore_n 1, 1) := by decide +kernel
theorem dX1_init_56 : decode cX1_init 56 = .ok (.iload_n 1, 1) := by decide +kernel
theorem dX1_init_57 : decode cX1_init 57 = .ok (.aload_n 0, 1) := by decide +kernel
theorem dX1_init_58 : decode cX1_init 58 = .ok (.getfield 20, 3) := by decide +kernel
theorem dX1_init_61 : decode cX1_init 61 = .ok (.arraylength, 1) := by decide +kernel
theorem dX1_init_62 : decode cX1_init 62 = .ok (.if_icmp .ge 22, 3) := by decide +kernel
theorem dX1_init_65 : decode cX1_init 65 = .ok (.aload_n 0, 1) := by decide +kernel
theorem dX1_init_66 : decode cX1_init 66 = .ok (.getfield 20, 3) := by decide +kernel
theorem dX1_init_69 : decode cX1_init 69 = .ok (.iload_n 1, 1) := by decide +kernel
theorem dX1_init_70 : decode cX1_init 70 = .ok (.new 18, 3) := by decide +kernel
theorem dX1_init_73 : decode cX1_init 73 = .ok (.dup, 1) := by decide +kernel
theorem dX1_init_74 : decode cX1_init 74 = .ok (.invokespecial 24, 3) := by decide +kernel
theorem dX1_init_77 : decode cX1_init 77 = .ok (.aastore, 1) := by decide +kernel
theorem dX1_init_78 : decode cX1_init 78 = .ok (.iinc 1 1, 3) := by decide +kernel
theorem dX1_init_81 : decode cX1_init 81 = .ok (.goto (-25), 3) := by decide +kernel
theorem dX1_init_84 : decode cX1_init 84 = .ok (.aload_n 0, 1) := by decide +kernel
theorem dX1_init_85 : decode cX1_init 85 = .ok (.iconst 5, 1) := by decide +kernel
theorem dX1_init_86 : decode cX1_init 86 = .ok (.anewarray 25, 3) := by decide +kernel
theorem dX1_init_89 : decode cX1_init 89 = .ok (.putfield 27, 3) := by decide +kernel
theorem dX1_init_92 : decode cX1_init 92 = .ok (.iconst 0, 1) := by decide +kernel
theorem dX1_init_93 : decode cX1_init 93 = .ok (.istore_n 1, 1) := by decide +kernel
theorem dX1_init_94 : decode cX1_init 94 = .ok (.iload_n 1, 1) := by decide +kernel
theorem dX1_init_95 : decode cX1_init 95 = .ok (.aload_n 0, 1) := by decide +kernel
theorem dX1_init_96 : decode cX1_init 96 = .ok (.getfield 27, 3) := by decide +kernel
theorem dX1_init_99 : decode cX1_init 99 = .ok (.arraylength, 1) := by decide +kernel
theorem dX1_init_100 : decode cX1_init 100 = .ok (.if_icmp .ge 22, 3) := by decide +kernel
theorem dX1_init_103 : decode cX1_init 103 = .ok (.aload_n 0, 1) := by decide +kernel
theorem dX1_init_104 : decode cX1_init 104 = .ok (.getfield 27, 3) := by decide +kernel
theorem dX1_init_107 : decode cX1_init 107 = .ok (.iload_n 1, 1) := by decide +kernel
theorem dX1_init_108 : decode cX1_init 108 = .ok (.new 25, 3) := by decide +kernel
theorem dX1_init_111 : decode cX1_init 111 = .ok (.dup, 1) := by decide +kernel
theorem dX1_init_112 : decode cX1_init 112 = .ok (.invokespecial 31, 3) := by decide +kernel
theorem dX1_init_115 : decode cX1_init 115 = .ok (.aastore, 1) := by decide +kernel
theorem dX1_init_116 : decode cX1_init 116 = .ok (.iinc 1 1, 3) := by decide +kernel
theorem dX1_init_119 : decode cX1_init 119 = .ok (.goto (-25), 3) := by decide +kernel
theorem dX1_init_122 : decode cX1_init 122 = .ok (.return_, 1) := by decide +kernel
set_option maxRecDepth 20000 in
theorem ggX1_copyFrom_X1_tableEels : GoodIn wsX1_copyFrom wsX1_tableEels := goodIn_r _ [13, 1, 56, 57, 58, 59, 60, 61, 62, 63, 64, 65] (by decide +kernel) (by decide +kernel)
set_option maxRecDepth 20000 in
theorem gX1_copyFrom_X1_tableEels : GoodIn wsX1_copyFrom (wsV RX1 32 RX1 yX1_tableEels wsX1_tableEels) := goodIn_app (goodIn_of _ (by decide +kernel)) ggX1_copyFrom_X1_tableEels
set_option maxRecDepth 20000 in
theorem ggX1_copyFrom_X1_inOrder : GoodIn wsX1_copyFrom wsX1_inOrder := goodIn_r _ [17, 2, 56, 57, 58, 59, 60, 61, 62, 63, 64, 65] (by decide +kernel) (by decide +kernel)
set_option maxRecDepth 20000 in
theorem gX1_copyFrom_X1_inOrder : GoodIn wsX1_copyFrom (wsV RX1 36 RX1 yX1_inOrder wsX1_inOrder) := goodIn_app (goodIn_of _ (by decide +kernel)) ggX1_copyFrom_X1_inOrder
set_option maxRecDepth 20000 in
theorem ggX1_copyFrom_X1_weirAt : GoodIn wsX1_copyFrom wsX1_weirAt := goodIn_r _ [21, 3, 22, 56, 57, 58, 59, 60, 61, 62, 63, 64, 65] (by decide +kernel) (by decide +kernel)
set_option maxRecDepth 20000 in
theorem gX1_copyFrom_X1_weirAt : GoodIn wsX1_copyFrom (wsV RX1 43 RX1 yX1_weirAt wsX1_weirAt) := goodIn_app (goodIn_of _ (by decide +kernel)) ggX1_copyFrom_X1_weirAt
set_option maxRecDepth 20000 in
theorem ggX1_copyFrom_X1_copyWeir : GoodIn wsX1_copyFrom wsX1_copyWeir := goodIn_r _ [25, 26, 27, 28, 29, 30, 31, 32, 33, 34, 35, 36, 37, 38, 66, 67, 68, 69, 70, 71, 72, 73] (by decide +kernel) (by decide +kernel)
set_option maxRecDepth 20000 in
theorem gX1_copyFrom_X1_copyWeir : GoodIn wsX1_copyFrom (va_wsS RX1 47 yX1_copyWeir wsX1_copyWeir) := goodIn_app (goodIn_of _ (by decide +kernel)) ggX1_copyFrom_X1_copyWeir
set_option maxRecDepth 20000 in
theorem ggX1_copyFrom_X1_bargeAt : GoodIn wsX1_copyFrom wsX1_bargeAt := goodIn_r _ [42, 4, 43, 56, 57, 58, 59, 60, 61, 62, 63, 64, 65] (by decide +kernel) (by decide +kernel)
set_option maxRecDepth 20000 in
theorem gX1_copyFrom_X1_bargeAt : GoodIn wsX1_copyFrom (wsV RX1 54 RX1 yX1_bargeAt wsX1_bargeAt) := goodIn_app (goodIn_of _ (by decide +kernel)) ggX1_copyFrom_X1_bargeAt
set_option maxRecDepth 20000 in
theorem ggX1_copyFrom_X1_copyBarge : GoodIn wsX1_copyFrom wsX1_copyBarge := goodIn_r _ [46, 47, 48, 49, 50, 51, 52, 53, 54, 55, 74, 75, 76, 77] (by decide +kernel) (by decide +kernel)
set_option maxRecDepth 20000 in
theorem gX1_copyFrom_X1_copyBarge : GoodIn wsX1_copyFrom (va_wsS RX1 58 yX1_copyBarge wsX1_copyBarge) := goodIn_app (goodIn_of _ (by decide +kernel)) ggX1_copyFrom_X1_copyBarge
theorem dX1_copyFrom_0 : decode cX1_copyFrom 0 = .ok (.iconst 0, 1) := by decide +kernel
theorem dX1_copyFrom_1 : decode cX1_copyFrom 1 = .ok (.istore_n 2, 1) := by decide +kernel
theorem dX1_copyFrom_2 : decode cX1_copyFrom 2 = .ok (.iload_n 2, 1) := by decide +kernel
theorem dX1_copyFrom_3 : decode cX1_copyFrom 3 = .ok (.aload_n 0, 1) := by decide +kernel
theorem dX1_copyFrom_4 : decode cX1_copyFrom 4 = .ok (.getfield 9, 3) := by decide +kernel
theorem dX1_copyFrom_7 : decode cX1_copyFrom 7 = .ok (.arraylength, 1) := by decide +kernel
theorem dX1_copyFrom_8 : decode cX1_copyFrom 8 = .ok (.if_icmp .ge 20, 3) := by decide +kernel
theorem dX1_copyFrom_11 : decode cX1_copyFrom 11 = .ok (.aload_n 0, 1) := by decide +kernel
theorem dX1_copyFrom_12 : decode cX1_copyFrom 12 = .ok (.getfield 9, 3) := by decide +kernel
theorem dX1_copyFrom_15 : decode cX1_copyFrom 15 = .ok (.iload_n 2, 1) := by decide +kernel
theorem dX1_copyFrom_16 : decode cX1_copyFrom 16 = .ok (.aload_n 1, 1) := by decide +kernel
theorem dX1_copyFrom_17 : decode cX1_copyFrom 17 = .ok (.iload_n 2, 1) := by decide +kernel
theorem dX1_copyFrom_18 : decode cX1_copyFrom 18 = .ok (.invokevirtual 32, 3) := by decide +kernel
theorem dX1_copyFrom_21 : decode cX1_copyFrom 21 = .ok (.iastore, 1) := by decide +kernel
theorem dX1_copyFrom_22 : decode cX1_copyFrom 22 = .ok (.iinc 2 1, 3) := by decide +kernel
theorem dX1_copyFrom_25 : decode cX1_copyFrom 25 = .ok (.goto (-23), 3) := by decide +kernel
theorem dX1_copyFrom_28 : decode cX1_copyFrom 28 = .ok (.iconst 0, 1) := by decide +kernel
theorem dX1_copyFrom_29 : decode cX1_copyFrom 29 = .ok (.istore_n 2, 1) := by decide +kernel
theorem dX1_copyFrom_30 : decode cX1_copyFrom 30 = .ok (.iload_n 2, 1) := by decide +kernel
theorem dX1_copyFrom_31 : decode cX1_copyFrom 31 = .ok (.aload_n 0, 1) := by decide +kernel
theorem dX1_copyFrom_32 : decode cX1_copyFrom 32 = .ok (.getfield 15, 3) := by decide +kernel
theorem dX1_copyFrom_35 : decode cX1_copyFrom 35 = .ok (.arraylength, 1) := by decide +kernel
theorem dX1_copyFrom_36 : decode cX1_copyFrom 36 = .ok (.if_icmp .ge 20, 3) := by decide +kernel
theorem dX1_copyFrom_39 : decode cX1_copyFrom 39 = .ok (.aload_n 0, 1) := by decide +kernel
theorem dX1_copyFrom_40 : decode cX1_copyFrom 40 = .ok (.getfield 15, 3) := by decide +kernel
theorem dX1_copyFrom_43 : decode cX1_copyFrom 43 = .ok (.iload_n 2, 1) := by decide +kernel
theorem dX1_copyFrom_44 : decode cX1_copyFrom 44 = .ok (.aload_n 1, 1) := by decide +kernel
theorem dX1_copyFrom_45 : decode cX1_copyFrom 45 = .ok (.iload_n 2, 1) := by decide +kernel
theorem dX1_copyFrom_46 : decode cX1_copyFrom 46 = .ok (.invokevirtual 36, 3) := by decide +kernel
theorem dX1_copyFrom_49 : decode cX1_copyFrom 49 = .ok (.iastore, 1) := by decide +kernel
theorem dX1_copyFrom_50 : decode cX1_copyFrom 50 = .ok (.iinc 2 1, 3) := by decide +kernel
theorem dX1_copyFrom_53 : decode cX1_copyFrom 53 = .ok (.goto (-23), 3) := by decide +kernel
theorem dX1_copyFrom_56 : decode cX1_copyFrom 56 = .ok (.aload_n 0, 1) := by decide +kernel
theorem dX1_copyFrom_57 : decode cX1_copyFrom 57 = .ok (.aload_n 1, 1) := by decide +kernel
theorem dX1_copyFrom_58 : decode cX1_copyFrom 58 = .ok (.getfield 39, 3) := by decide +kernel
theorem dX1_copyFrom_61 : decode cX1_copyFrom 61 = .ok (.putfield 39, 3) := by decide +kernel
theorem dX1_copyFrom_64 : decode cX1_copyFrom 64 = .ok (.iconst 0, 1) := by decide +kernel
theorem dX1_copyFrom_65 : decode cX1_copyFrom 65 = .ok (.istore_n 2, 1) := by decide +kernel
theorem dX1_copyFrom_66 : decode cX1_copyFrom 66 = .ok (.iload_n 2, 1) := by decide +kernel
theorem dX1_copyFrom_67 : decode cX1_copyFrom 67 = .ok (.aload_n 0, 1) := by decide +kernel
theorem dX1_copyFrom_68 : decode cX1_copyFrom 68 = .ok (.getfield 39, 3) := by decide +kernel
theorem dX1_copyFrom_71 : decode cX1_copyFrom 71 = .ok (.if_icmp .ge 22, 3) := by decide +kernel
theorem dX1_copyFrom_74 : decode cX1_copyFrom 74 = .ok (.aload_n 0, 1) := by decide +kernel
theorem dX1_copyFrom_75 : decode cX1_copyFrom 75 = .ok (.iload_n 2, 1) := by decide +kernel
theorem dX1_copyFrom_76 : decode cX1_copyFrom 76 = .ok (.invokevirtual 43, 3) := by decide +kernel
theorem dX1_copyFrom_79 : decode cX1_copyFrom 79 = .ok (.aload_n 1, 1) := by decide +kernel
theorem dX1_copyFrom_80 : decode cX1_copyFrom 80 = .ok (.iload_n 2, 1) := by decide +kernel
theorem dX1_copyFrom_81 : decode cX1_copyFrom 81 = .ok (.invokevirtual 43, 3) := by decide +kernel
theorem dX1_copyFrom_84 : decode cX1_copyFrom 84 = .ok (.invokestatic 47, 3) := by decide +kernel
theorem dX1_copyFrom_87 : decode cX1_copyFrom 87 = .ok (.iinc 2 1, 3) := by decide +kernel
theorem dX1_copyFrom_90 : decode cX1_copyFrom 90 = .ok (.goto (-24), 3) := by decide +kernel
theorem dX1_copyFrom_93 : decode cX1_copyFrom 93 = .ok (.aload_n 0, 1) := by decide +kernel
theorem dX1_copyFrom_94 : decode cX1_copyFrom 94 = .ok (.aload_n 1, 1) := by decide +kernel
theorem dX1_copyFrom_95 : decode cX1_copyFrom 95 = .ok (.getfield 51, 3) := by decide +kernel
theorem dX1_copyFrom_98 : decode cX1_copyFrom 98 = .ok (.putfield 51, 3) := by decide +kernel
theorem dX1_copyFrom_101 : decode cX1_copyFrom 101 = .ok (.iconst 0, 1) := by decide +kernel
theorem dX1_copyFrom_102 : decode cX1_copyFrom 102 = .ok (.istore_n 2, 1) := by decide +kernel
theorem dX1_copyFrom_103 : decode cX1_copyFrom 103 = .ok (.iload_n 2, 1) := by decide +kernel
theorem dX1_copyFrom_104 : decode cX1_copyFrom 104 = .ok (.aload_n 0, 1) := by decide +kernel
theorem dX1_copyFrom_105 : decode cX1_copyFrom 105 = .ok (.getfield 51, 3) := by decide +kernel
theorem dX1_copyFrom_108 : decode cX1_copyFrom 108 = .ok (.if_icmp .ge 22, 3) := by decide +kernel
theorem dX1_copyFrom_111 : decode cX1_copyFrom 111 = .ok (.aload_n 0, 1) := by decide +kernel
theorem dX1_copyFrom_112 : decode cX1_copyFrom 112 = .ok (.iload_n 2, 1) := by decide +kernel
theorem dX1_copyFrom_113 : decode cX1_copyFrom 113 = .ok (.invokevirtual 54, 3) := by decide +kernel
theorem dX1_copyFrom_116 : decode cX1_copyFrom 116 = .ok (.aload_n 1, 1) := by decide +kernel
theorem dX1_copyFrom_117 : decode cX1_copyFrom 117 = .ok (.iload_n 2, 1) := by decide +kernel
theorem dX1_copyFrom_118 : decode cX1_copyFrom 118 = .ok (.invokevirtual 54, 3) := by decide +kernel
theorem dX1_copyFrom_121 : decode cX1_copyFrom 121 = .ok (.invokestatic 58, 3) := by decide +kernel
theorem dX1_copyFrom_124 : decode cX1_copyFrom 124 = .ok (.iinc 2 1, 3) := by decide +kernel
theorem dX1_copyFrom_127 : decode cX1_copyFrom 127 = .ok (.goto (-24), 3) := by decide +kernel
theorem dX1_copyFrom_130 : decode cX1_copyFrom 130 = .ok (.aload_n 0, 1) := by decide +kernel
theorem dX1_copyFrom_131 : decode cX1_copyFrom 131 = .ok (.aload_n 1, 1) := by decide +kernel
theorem dX1_copyFrom_132 : decode cX1_copyFrom 132 = .ok (.getfield 62, 3) := by decide +kernel
theorem dX1_copyFrom_135 : decode cX1_copyFrom 135 = .ok (.putfield 62, 3) := by decide +kernel
theorem dX1_copyFrom_138 : decode cX1_copyFrom 138 = .ok (.aload_n 0, 1) := by decide +kernel
theorem dX1_copyFrom_139 : decode cX1_copyFrom 139 = .ok (.aload_n 1, 1) := by decide +kernel
theorem dX1_copyFrom_140 : decode cX1_copyFrom 140 = .ok (.getfield 65, 3) := by decide +kernel
theorem dX1_copyFrom_143 : decode cX1_copyFrom 143 = .ok (.putfield 65, 3) := by decide +kernel
theorem dX1_copyFrom_146 : decode cX1_copyFrom 146 = .ok (.aload_n 0, 1) := by decide +kernel
theorem dX1_copyFrom_147 : decode cX1_copyFrom 147 = .ok (.aload_n 1, 1) := by decide +kernel
theorem dX1_copyFrom_148 : decode cX1_copyFrom 148 = .ok (.getfield 68, 3) := by decide +kernel
theorem dX1_copyFrom_151 : decode cX1_copyFrom 151 = .ok (.putfield 68, 3) := by decide +kernel
theorem dX1_copyFrom_154 : decode cX1_copyFrom 154 = .ok (.aload_n 0, 1) := by decide +kernel
theorem dX1_copyFrom_155 : decode cX1_copyFrom 155 = .ok (.aload_n 1, 1) := by decide +kernel
theorem dX1_copyFrom_156 : decode cX1_copyFrom 156 = .ok (.getfield 71, 3) := by decide +kernel
theorem dX1_copyFrom_159 : decode cX1_copyFrom 159 = .ok (.putfield 71, 3) := by decide +kernel
theorem dX1_copyFrom_162 : decode cX1_copyFrom 162 = .ok (.return_, 1) := by decide +kernel
set_option maxRecDepth 20000 in
theorem ggX1_copyWeir_X2_copyFrom : GoodIn wsX1_copyWeir wsX2_copyFrom := goodIn_r _ [5, 6, 7, 8, 9, 10, 11, 12, 13, 14, 15, 16, 17, 18, 19, 20, 21] (by decide +kernel) (by decide +kernel)
set_option maxRecDepth 20000 in
theorem gX1_copyWeir_X2_copyFrom : GoodIn wsX1_copyWeir (wsV RX1 74 RX2 yX2_copyFrom wsX2_copyFrom) := goodIn_app (goodIn_of _ (by decide +kernel)) ggX1_copyWeir_X2_copyFrom
theorem dX1_copyWeir_0 : decode cX1_copyWeir 0 = .ok (.aload_n 0, 1) := by decide +kernel
theorem dX1_copyWeir_1 : decode cX1_copyWeir 1 = .ok (.ifnull 12, 3) := by decide +kernel
theorem dX1_copyWeir_4 : decode cX1_copyWeir 4 = .ok (.aload_n 1, 1) := by decide +kernel
theorem dX1_copyWeir_5 : decode cX1_copyWeir 5 = .ok (.ifnull 8, 3) := by decide +kernel
theorem dX1_copyWeir_8 : decode cX1_copyWeir 8 = .ok (.aload_n 0, 1) := by decide +kernel
theorem dX1_copyWeir_9 : decode cX1_copyWeir 9 = .ok (.aload_n 1, 1) := by decide +kernel
theorem dX1_copyWeir_10 : decode cX1_copyWeir 10 = .ok (.invokevirtual 74, 3) := by decide +kernel
theorem dX1_copyWeir_13 : decode cX1_copyWeir 13 = .ok (.return_, 1) := by decide +kernel
set_option maxRecDepth 20000 in
theorem ggX1_copyBarge_X0_copyFrom : GoodIn wsX1_copyBarge wsX0_copyFrom := goodIn_r _ [5, 6, 7, 8, 9, 10, 11, 12, 13] (by decide +kernel) (by decide +kernel)
set_option maxRecDepth 20000 in
theorem gX1_copyBarge_X0_copyFrom : GoodIn wsX1_copyBarge (wsV RX1 78 RX0 yX0_copyFrom wsX0_copyFrom) := goodIn_app (goodIn_of _ (by decide +kernel)) ggX1_copyBarge_X0_copyFrom
theorem dX1_copyBarge_0 : decode cX1_copyBarge 0 = .ok (.aload_n 0, 1) := by decide +kernel
theorem dX1_copyBarge_1 : decode cX1_copyBarge 1 = .ok (.ifnull 12, 3) := by decide +kernel
theorem dX1_copyBarge_4 : decode cX1_copyBarge 4 = .ok (.aload_n 1, 1) := by decide +kernel
theorem dX1_copyBarge_5 : decode cX1_copyBarge 5 = .ok (.ifnull 8, 3) := by decide +kernel
theorem dX1_copyBarge_8 : decode cX1_copyBarge 8 = .ok (.aload_n 0, 1) := by decide +kernel
theorem dX1_copyBarge_9 : decode cX1_copyBarge 9 = .ok (.aload_n 1, 1) := by decide +kernel
theorem dX1_copyBarge_10 : decode cX1_copyBarge 10 = .ok (.invokevirtual 78, 3) := by decide +kernel
theorem dX1_copyBarge_13 : decode cX1_copyBarge 13 = .ok (.return_, 1) := by decide +kernel
theorem dX1_weirAt_0 : decode cX1_weirAt 0 = .ok (.iload_n 1, 1) := by decide +kernel
theorem dX1_weirAt_1 : decode cX1_weirAt 1 = .ok (.ifCond .lt 24, 3) := by decide +kernel
theorem dX1_weirAt_4 : decode cX1_weirAt 4 = .ok (.iload_n 1, 1) := by decide +kernel
theorem dX1_weirAt_5 : decode cX1_weirAt 5 = .ok (.aload_n 0, 1) := by decide +kernel
theorem dX1_weirAt_6 : decode cX1_weirAt 6 = .ok (.getfield 39, 3) := by decide +kernel
theorem dX1_weirAt_9 : decode cX1_weirAt 9 = .ok (.if_icmp .ge 16, 3) := by decide +kernel
theorem dX1_weirAt_12 : decode cX1_weirAt 12 = .ok (.iload_n 1, 1) := by decide +kernel
theorem dX1_weirAt_13 : decode cX1_weirAt 13 = .ok (.aload_n 0, 1) := by decide +kernel
theorem dX1_weirAt_14 : decode cX1_weirAt 14 = .ok (.getfield 20, 3) := by decide +kernel
theorem dX1_weirAt_17 : decode cX1_weirAt 17 = .ok (.arraylength, 1) := by decide +kernel
theorem dX1_weirAt_18 : decode cX1_weirAt 18 = .ok (.if_icmp .ge 7, 3) := by decide +kernel
theorem dX1_weirAt_21 : decode cX1_weirAt 21 = .ok (.iconst 1, 1) := by decide +kernel
theorem dX1_weirAt_22 : decode cX1_weirAt 22 = .ok (.goto 4, 3) := by decide +kernel
theorem dX1_weirAt_25 : decode cX1_weirAt 25 = .ok (.iconst 0, 1) := by decide +kernel
theorem dX1_weirAt_26 : decode cX1_weirAt 26 = .ok (.istore_n 2, 1) := by decide +kernel
theorem dX1_weirAt_27 : decode cX1_weirAt 27 = .ok (.iload_n 2, 1) := by decide +kernel
theorem dX1_weirAt_28 : decode cX1_weirAt 28 = .ok (.ifCond .eq 12, 3) := by decide +kernel
theorem dX1_weirAt_31 : decode cX1_weirAt 31 = .ok (.aload_n 0, 1) := by decide +kernel
theorem dX1_weirAt_32 : decode cX1_weirAt 32 = .ok (.getfield 20, 3) := by decide +kernel
theorem dX1_weirAt_35 : decode cX1_weirAt 35 = .ok (.iload_n 1, 1) := by decide +kernel
theorem dX1_weirAt_36 : decode cX1_weirAt 36 = .ok (.aaload, 1) := by decide +kernel
theorem dX1_weirAt_37 : decode cX1_weirAt 37 = .ok (.goto 4, 3) := by decide +kernel
theorem dX1_weirAt_40 : decode cX1_weirAt 40 = .ok (.aconst_null, 1) := by decide +kernel
theorem dX1_weirAt_41 : decode cX1_weirAt 41 = .ok (.areturn, 1) := by decide +kernel
theorem dX1_bargeAt_0 : decode cX1_bargeAt 0 = .ok (.iload_n 1, 1) := by decide +kernel
theorem dX1_bargeAt_1 : decode cX1_bargeAt 1 = .ok (.ifCond .lt 24, 3) := by decide +kernel
theorem dX1_bargeAt_4 : decode cX1_bargeAt 4 = .ok (.iload_n 1, 1) := by decide +kernel
theorem dX1_bargeAt_5 : decode cX1_bargeAt 5 = .ok (.aload_n 0, 1) := by decide +kernel
theorem dX1_bargeAt_6 : decode cX1_bargeAt 6 = .ok (.getfield 51, 3) := by decide +kernel
theorem dX1_bargeAt_9 : decode cX1_bargeAt 9 = .ok (.if_icmp .ge 16, 3) := by decide +kernel
theorem dX1_bargeAt_12 : decode cX1_bargeAt 12 = .ok (.iload_n 1, 1) := by decide +kernel
theorem dX1_bargeAt_13 : decode cX1_bargeAt 13 = .ok (.aload_n 0, 1) := by decide +kernel
theorem dX1_bargeAt_14 : decode cX1_bargeAt 14 = .ok (.getfield 27, 3) := by decide +kernel
theorem dX1_bargeAt_17 : decode cX1_bargeAt 17 = .ok (.arraylength, 1) := by decide +kernel
theorem dX1_bargeAt_18 : decode cX1_bargeAt 18 = .ok (.if_icmp .ge 7, 3) := by decide +kernel
theorem dX1_bargeAt_21 : decode cX1_bargeAt 21 = .ok (.iconst 1, 1) := by decide +kernel
theorem dX1_bargeAt_22 : decode cX1_bargeAt 22 = .ok (.goto 4, 3) := by decide +kernel
theorem dX1_bargeAt_25 : decode cX1_bargeAt 25 = .ok (.iconst 0, 1) := by decide +kernel
theorem dX1_bargeAt_26 : decode cX1_bargeAt 26 = .ok (.istore_n 2, 1) := by decide +kernel
theorem dX1_bargeAt_27 : decode cX1_bargeAt 27 = .ok (.iload_n 2, 1) := by decide +kernel
theorem dX1_bargeAt_28 : decode cX1_bargeAt 28 = .ok (.ifCond .eq 12, 3) := by decide +kernel
theorem dX1_bargeAt_31 : decode cX1_bargeAt 31 = .ok (.aload_n 0, 1) := by decide +kernel
theorem dX1_bargeAt_32 : decode cX1_bargeAt 32 = .ok (.getfield 27, 3) := by decide +kernel
theorem dX1_bargeAt_35 : decode cX1_bargeAt 35 = .ok (.iload_n 1, 1) := by decide +kernel
theorem dX1_bargeAt_36 : decode cX1_bargeAt 36 = .ok (.aaload, 1) := by decide +kernel
theorem dX1_bargeAt_37 : decode cX1_bargeAt 37 = .ok (.goto 4, 3) := by decide +kernel
theorem dX1_bargeAt_40 : decode cX1_bargeAt 40 = .ok (.aconst_null, 1) := by decide +kernel
theorem dX1_bargeAt_41 : decode cX1_bargeAt 41 = .ok (.areturn, 1) := by decide +kernel
theorem dX1_inOrder_0 : decode cX1_inOrder 0 = .ok (.iload_n 1, 1) := by decide +kernel
theorem dX1_inOrder_1 : decode cX1_inOrder 1 = .ok (.ifCond .lt 21, 3) := by decide +kernel
theorem dX1_inOrder_4 : decode cX1_inOrder 4 = .ok (.iload_n 1, 1) := by decide +kernel
theorem dX1_inOrder_5 : decode cX1_inOrder 5 = .ok (.aload_n 0, 1) := by decide +kernel
theorem dX1_inOrder_6 : decode cX1_inOrder 6 = .ok (.getfield 15, 3) := by decide +kernel
theorem dX1_inOrder_9 : decode cX1_inOrder 9 = .ok (.arraylength, 1) := by decide +kernel
theorem dX1_inOrder_10 : decode cX1_inOrder 10 = .ok (.if_icmp .ge 12, 3) := by decide +kernel
theorem dX1_inOrder_13 : decode cX1_inOrder 13 = .ok (.aload_n 0, 1) := by decide +kernel
theorem dX1_inOrder_14 : decode cX1_inOrder 14 = .ok (.getfield 15, 3) := by decide +kernel
theorem dX1_inOrder_17 : decode cX1_inOrder 17 = .ok (.iload_n 1, 1) := by decide +kernel
theorem dX1_inOrder_18 : decode cX1_inOrder 18 = .ok (.iaload, 1) := by decide +kernel
theorem dX1_inOrder_19 : decode cX1_inOrder 19 = .ok (.goto 4, 3) := by decide +kernel
theorem dX1_inOrder_22 : decode cX1_inOrder 22 = .ok (.iconst (-1), 1) := by decide +kernel
theorem dX1_inOrder_23 : decode cX1_inOrder 23 = .ok (.ireturn, 1) := by decide +kernel
theorem dX1_tableEels_0 : decode cX1_tableEels 0 = .ok (.iload_n 1, 1) := by decide +kernel
theorem dX1_tableEels_1 : decode cX1_tableEels 1 = .ok (.ifCond .lt 21, 3) := by decide +kernel
theorem dX1_tableEels_4 : decode cX1_tableEels 4 = .ok (.iload_n 1, 1) := by decide +kernel
theorem dX1_tableEels_5 : decode cX1_tableEels 5 = .ok (.aload_n 0, 1) := by decide +kernel
theorem dX1_tableEels_6 : decode cX1_tableEels 6 = .ok (.getfield 9, 3) := by decide +kernel
theorem dX1_tableEels_9 : decode cX1_tableEels 9 = .ok (.arraylength, 1) := by decide +kernel
theorem dX1_tableEels_10 : decode cX1_tableEels 10 = .ok (.if_icmp .ge 12, 3) := by decide +kernel
theorem dX1_tableEels_13 : decode cX1_tableEels 13 = .ok (.aload_n 0, 1) := by decide +kernel
theorem dX1_tableEels_14 : decode cX1_tableEels 14 = .ok (.getfield 9, 3) := by decide +kernel
theorem dX1_tableEels_17 : decode cX1_tableEels 17 = .ok (.iload_n 1, 1) := by decide +kernel
theorem dX1_tableEels_18 : decode cX1_tableEels 18 = .ok (.iaload, 1) := by decide +kernel
theorem dX1_tableEels_19 : decode cX1_tableEels 19 = .ok (.goto 4, 3) := by decide +kernel
theorem dX1_tableEels_22 : decode cX1_tableEels 22 = .ok (.iconst 0, 1) := by decide +kernel
theorem dX1_tableEels_23 : decode cX1_tableEels 23 = .ok (.ireturn, 1) := by decide +kernel
theorem dX1_setTableEels_0 : decode cX1_setTableEels 0 = .ok (.iload_n 1, 1) := by decide +kernel
theorem dX1_setTableEels_1 : decode cX1_setTableEels 1 = .ok (.ifCond .lt 19, 3) := by decide +kernel
theorem dX1_setTableEels_4 : decode cX1_setTableEels 4 = .ok (.iload_n 1, 1) := by decide +kernel
theorem dX1_setTableEels_5 : decode cX1_setTableEels 5 = .ok (.aload_n 0, 1) := by decide +kernel
theorem dX1_setTableEels_6 : decode cX1_setTableEels 6 = .ok (.getfield 9, 3) := by decide +kernel
theorem dX1_setTableEels_9 : decode cX1_setTableEels 9 = .ok (.arraylength, 1) := by decide +kernel
theorem dX1_setTableEels_10 : decode cX1_setTableEels 10 = .ok (.if_icmp .ge 10, 3) := by decide +kernel
theorem dX1_setTableEels_13 : decode cX1_setTableEels 13 = .ok (.aload_n 0, 1) := by decide +kernel
theorem dX1_setTableEels_14 : decode cX1_setTableEels 14 = .ok (.getfield 9, 3) := by decide +kernel
theorem dX1_setTableEels_17 : decode cX1_setTableEels 17 = .ok (.iload_n 1, 1) := by decide +kernel
theorem dX1_setTableEels_18 : decode cX1_setTableEels 18 = .ok (.iload_n 2, 1) := by decide +kernel
theorem dX1_setTableEels_19 : decode cX1_setTableEels 19 = .ok (.iastore, 1) := by decide +kernel
theorem dX1_setTableEels_20 : decode cX1_setTableEels 20 = .ok (.return_, 1) := by decide +kernel
set_option maxRecDepth 20000 in
theorem ggX1_addWeir_X1_putInOrder : GoodIn wsX1_addWeir wsX1_putInOrder := goodIn_r _ [6, 7, 8, 9, 10, 5, 11, 12, 13, 14, 15, 16, 1, 17, 31, 32, 33, 34, 35, 36, 37, 38, 39, 40, 41, 42, 43, 44, 45, 46, 47, 48] (by decide +kernel) (by decide +kernel)
set_option maxRecDepth 20000 in
theorem gX1_addWeir_X1_putInOrder : GoodIn wsX1_addWeir (wsV RX1 81 RX1 yX1_putInOrder wsX1_putInOrder) := goodIn_app (goodIn_of _ (by decide +kernel)) ggX1_addWeir_X1_putInOrder
set_option maxRecDepth 20000 in
theorem ggX1_addWeir_X1_weirAt : GoodIn wsX1_addWeir wsX1_weirAt := goodIn_r _ [16, 1, 17, 31, 32, 33, 34, 35, 36, 37, 38, 39, 40] (by decide +kernel) (by decide +kernel)
set_option maxRecDepth 20000 in
theorem gX1_addWeir_X1_weirAt : GoodIn wsX1_addWeir (wsV RX1 43 RX1 yX1_weirAt wsX1_weirAt) := goodIn_app (goodIn_of _ (by decide +kernel)) ggX1_addWeir_X1_weirAt
set_option maxRecDepth 20000 in
theorem ggX1_addWeir_X2_makeNew : GoodIn wsX1_addWeir wsX2_makeNew := goodIn_r _ [22, 23, 24, 25, 26, 27, 28, 29, 30, 41, 42, 43, 44, 45, 46, 47, 48] (by decide +kernel) (by decide +kernel)
set_option maxRecDepth 20000 in
theorem gX1_addWeir_X2_makeNew : GoodIn wsX1_addWeir (wsV RX1 85 RX2 yX2_makeNew wsX2_makeNew) := goodIn_app (goodIn_of _ (by decide +kernel)) ggX1_addWeir_X2_makeNew
theorem dX1_addWeir_0 : decode cX1_addWeir 0 = .ok (.aload_n 0, 1) := by decide +kernel
theorem dX1_addWeir_1 : decode cX1_addWeir 1 = .ok (.getfield 39, 3) := by decide +kernel
theorem dX1_addWeir_4 : decode cX1_addWeir 4 = .ok (.istore 4, 2) := by decide +kernel
theorem dX1_addWeir_6 : decode cX1_addWeir 6 = .ok (.aload_n 0, 1) := by decide +kernel
theorem dX1_addWeir_7 : decode cX1_addWeir 7 = .ok (.iload 4, 2) := by decide +kernel
theorem dX1_addWeir_9 : decode cX1_addWeir 9 = .ok (.iload_n 1, 1) := by decide +kernel
theorem dX1_addWeir_10 : decode cX1_addWeir 10 = .ok (.invokevirtual 81, 3) := by decide +kernel
theorem dX1_addWeir_13 : decode cX1_addWeir 13 = .ok (.aload_n 0, 1) := by decide +kernel
theorem dX1_addWeir_14 : decode cX1_addWeir 14 = .ok (.dup, 1) := by decide +kernel
theorem dX1_addWeir_15 : decode cX1_addWeir 15 = .ok (.getfield 39, 3) := by decide +kernel
theorem dX1_addWeir_18 : decode cX1_addWeir 18 = .ok (.iconst 1, 1) := by decide +kernel
theorem dX1_addWeir_19 : decode cX1_addWeir 19 = .ok (.iadd, 1) := by decide +kernel
theorem dX1_addWeir_20 : decode cX1_addWeir 20 = .ok (.putfield 39, 3) := by decide +kernel
theorem dX1_addWeir_23 : decode cX1_addWeir 23 = .ok (.aload_n 0, 1) := by decide +kernel
theorem dX1_addWeir_24 : decode cX1_addWeir 24 = .ok (.iload 4, 2) := by decide +kernel
theorem dX1_addWeir_26 : decode cX1_addWeir 26 = .ok (.invokevirtual 43, 3) := by decide +kernel
theorem dX1_addWeir_29 : decode cX1_addWeir 29 = .ok (.astore 5, 2) := by decide +kernel
theorem dX1_addWeir_31 : decode cX1_addWeir 31 = .ok (.aload 5, 2) := by decide +kernel
theorem dX1_addWeir_33 : decode cX1_addWeir 33 = .ok (.ifnull 11, 3) := by decide +kernel
theorem dX1_addWeir_36 : decode cX1_addWeir 36 = .ok (.aload 5, 2) := by decide +kernel
theorem dX1_addWeir_38 : decode cX1_addWeir 38 = .ok (.iload_n 1, 1) := by decide +kernel
theorem dX1_addWeir_39 : decode cX1_addWeir 39 = .ok (.iload_n 2, 1) := by decide +kernel
theorem dX1_addWeir_40 : decode cX1_addWeir 40 = .ok (.iload_n 3, 1) := by decide +kernel
theorem dX1_addWeir_41 : decode cX1_addWeir 41 = .ok (.invokevirtual 85, 3) := by decide +kernel
theorem dX1_addWeir_44 : decode cX1_addWeir 44 = .ok (.iload 4, 2) := by decide +kernel
theorem dX1_addWeir_46 : decode cX1_addWeir 46 = .ok (.ireturn, 1) := by decide +kernel
set_option maxRecDepth 20000 in
theorem ggX1_putInOrder_X1_isSeawardsOf : GoodIn wsX1_putInOrder wsX1_isSeawardsOf := goodIn_r _ [6, 7, 8, 9, 10, 5, 11, 12, 13, 24, 25, 26, 27, 28, 29, 30, 31, 14, 15, 16, 17, 18, 19, 20, 21, 22, 23] (by decide +kernel) (by decide +kernel)
set_option maxRecDepth 20000 in
theorem gX1_putInOrder_X1_isSeawardsOf : GoodIn wsX1_putInOrder (wsV RX1 89 RX1 yX1_isSeawardsOf wsX1_isSeawardsOf) := goodIn_app (goodIn_of _ (by decide +kernel)) ggX1_putInOrder_X1_isSeawardsOf
theorem dX1_putInOrder_0 : decode cX1_putInOrder 0 = .ok (.iload_n 1, 1) := by decide +kernel
theorem dX1_putInOrder_1 : decode cX1_putInOrder 1 = .ok (.istore_n 3, 1) := by decide +kernel
theorem dX1_putInOrder_2 : decode cX1_putInOrder 2 = .ok (.iload_n 3, 1) := by decide +kernel
theorem dX1_putInOrder_3 : decode cX1_putInOrder 3 = .ok (.ifCond .le 48, 3) := by decide +kernel
theorem dX1_putInOrder_6 : decode cX1_putInOrder 6 = .ok (.iload_n 3, 1) := by decide +kernel
theorem dX1_putInOrder_7 : decode cX1_putInOrder 7 = .ok (.aload_n 0, 1) := by decide +kernel
theorem dX1_putInOrder_8 : decode cX1_putInOrder 8 = .ok (.getfield 15, 3) := by decide +kernel
theorem dX1_putInOrder_11 : decode cX1_putInOrder 11 = .ok (.arraylength, 1) := by decide +kernel
theorem dX1_putInOrder_12 : decode cX1_putInOrder 12 = .ok (.if_icmp .ge 39, 3) := by decide +kernel
theorem dX1_putInOrder_15 : decode cX1_putInOrder 15 = .ok (.aload_n 0, 1) := by decide +kernel
theorem dX1_putInOrder_16 : decode cX1_putInOrder 16 = .ok (.aload_n 0, 1) := by decide +kernel
theorem dX1_putInOrder_17 : decode cX1_putInOrder 17 = .ok (.getfield 15, 3) := by decide +kernel
theorem dX1_putInOrder_20 : decode cX1_putInOrder 20 = .ok (.iload_n 3, 1) := by decide +kernel
theorem dX1_putInOrder_21 : decode cX1_putInOrder 21 = .ok (.iconst 1, 1) := by decide +kernel
theorem dX1_putInOrder_22 : decode cX1_putInOrder 22 = .ok (.isub, 1) := by decide +kernel
theorem dX1_putInOrder_23 : decode cX1_putInOrder 23 = .ok (.iaload, 1) := by decide +kernel
theorem dX1_putInOrder_24 : decode cX1_putInOrder 24 = .ok (.iload_n 2, 1) := by decide +kernel
theorem dX1_putInOrder_25 : decode cX1_putInOrder 25 = .ok (.invokevirtual 89, 3) := by decide +kernel
theorem dX1_putInOrder_28 : decode cX1_putInOrder 28 = .ok (.ifCond .eq 23, 3) := by decide +kernel
theorem dX1_putInOrder_31 : decode cX1_putInOrder 31 = .ok (.aload_n 0, 1) := by decide +kernel
theorem dX1_putInOrder_32 : decode cX1_putInOrder 32 = .ok (.getfield 15, 3) := by decide +kernel
theorem dX1_putInOrder_35 : decode cX1_putInOrder 35 = .ok (.iload_n 3, 1) := by decide +kernel
theorem dX1_putInOrder_36 : decode cX1_putInOrder 36 = .ok (.aload_n 0, 1) := by decide +kernel
theorem dX1_putInOrder_37 : decode cX1_putInOrder 37 = .ok (.getfield 15, 3) := by decide +kernel
theorem dX1_putInOrder_40 : decode cX1_putInOrder 40 = .ok (.iload_n 3, 1) := by decide +kernel
theorem dX1_putInOrder_41 : decode cX1_putInOrder 41 = .ok (.iconst 1, 1) := by decide +kernel
theorem dX1_putInOrder_42 : decode cX1_putInOrder 42 = .ok (.isub, 1) := by decide +kernel
theorem dX1_putInOrder_43 : decode cX1_putInOrder 43 = .ok (.iaload, 1) := by decide +kernel
theorem dX1_putInOrder_44 : decode cX1_putInOrder 44 = .ok (.iastore, 1) := by decide +kernel
theorem dX1_putInOrder_45 : decode cX1_putInOrder 45 = .ok (.iinc 3 (-1), 3) := by decide +kernel
theorem dX1_putInOrder_48 : decode cX1_putInOrder 48 = .ok (.goto (-46), 3) := by decide +kernel
theorem dX1_putInOrder_51 : decode cX1_putInOrder 51 = .ok (.iload_n 3, 1) := by decide +kernel
theorem dX1_putInOrder_52 : decode cX1_putInOrder 52 = .ok (.ifCond .lt 19, 3) := by decide +kernel
theorem dX1_putInOrder_55 : decode cX1_putInOrder 55 = .ok (.iload_n 3, 1) := by decide +kernel
theorem dX1_putInOrder_56 : decode cX1_putInOrder 56 = .ok (.aload_n 0, 1) := by decide +kernel
theorem dX1_putInOrder_57 : decode cX1_putInOrder 57 = .ok (.getfield 15, 3) := by decide +kernel
theorem dX1_putInOrder_60 : decode cX1_putInOrder 60 = .ok (.arraylength, 1) := by decide +kernel
theorem dX1_putInOrder_61 : decode cX1_putInOrder 61 = .ok (.if_icmp .ge 10, 3) := by decide +kernel
theorem dX1_putInOrder_64 : decode cX1_putInOrder 64 = .ok (.aload_n 0, 1) := by decide +kernel
theorem dX1_putInOrder_65 : decode cX1_putInOrder 65 = .ok (.getfield 15, 3) := by decide +kernel
theorem dX1_putInOrder_68 : decode cX1_putInOrder 68 = .ok (.iload_n 3, 1) := by decide +kernel
theorem dX1_putInOrder_69 : decode cX1_putInOrder 69 = .ok (.iload_n 1, 1) := by decide +kernel
theorem dX1_putInOrder_70 : decode cX1_putInOrder 70 = .ok (.iastore, 1) := by decide +kernel
theorem dX1_putInOrder_71 : decode cX1_putInOrder 71 = .ok (.return_, 1) := by decide +kernel
set_option maxRecDepth 20000 in
theorem ggX1_isSeawardsOf_X1_weirAt : GoodIn wsX1_isSeawardsOf wsX1_weirAt := goodIn_r _ [6, 7, 8, 17, 18, 19, 20, 21, 22, 23, 24, 25, 26] (by decide +kernel) (by decide +kernel)
set_option maxRecDepth 20000 in
theorem gX1_isSeawardsOf_X1_weirAt : GoodIn wsX1_isSeawardsOf (wsV RX1 43 RX1 yX1_weirAt wsX1_weirAt) := goodIn_app (goodIn_of _ (by decide +kernel)) ggX1_isSeawardsOf_X1_weirAt
theorem dX1_isSeawardsOf_0 : decode cX1_isSeawardsOf 0 = .ok (.aload_n 0, 1) := by decide +kernel
theorem dX1_isSeawardsOf_1 : decode cX1_isSeawardsOf 1 = .ok (.iload_n 1, 1) := by decide +kernel
theorem dX1_isSeawardsOf_2 : decode cX1_isSeawardsOf 2 = .ok (.invokevirtual 43, 3) := by decide +kernel
theorem dX1_isSeawardsOf_5 : decode cX1_isSeawardsOf 5 = .ok (.astore_n 3, 1) := by decide +kernel
theorem dX1_isSeawardsOf_6 : decode cX1_isSeawardsOf 6 = .ok (.aload_n 3, 1) := by decide +kernel
theorem dX1_isSeawardsOf_7 : decode cX1_isSeawardsOf 7 = .ok (.ifnull 15, 3) := by decide +kernel
theorem dX1_isSeawardsOf_10 : decode cX1_isSeawardsOf 10 = .ok (.aload_n 3, 1) := by decide +kernel
theorem dX1_isSeawardsOf_11 : decode cX1_isSeawardsOf 11 = .ok (.getfield 93, 3) := by decide +kernel
theorem dX1_isSeawardsOf_14 : decode cX1_isSeawardsOf 14 = .ok (.iload_n 2, 1) := by decide +kernel
theorem dX1_isSeawardsOf_15 : decode cX1_isSeawardsOf 15 = .ok (.if_icmp .ge 7, 3) := by decide +kernel
theorem dX1_isSeawardsOf_18 : decode cX1_isSeawardsOf 18 = .ok (.iconst 1, 1) := by decide +kernel
theorem dX1_isSeawardsOf_19 : decode cX1_isSeawardsOf 19 = .ok (.goto 4, 3) := by decide +kernel
theorem dX1_isSeawardsOf_22 : decode cX1_isSeawardsOf 22 = .ok (.iconst 0, 1) := by decide +kernel
theorem dX1_isSeawardsOf_23 : decode cX1_isSeawardsOf 23 = .ok (.ireturn, 1) := by decide +kernel
set_option maxRecDepth 20000 in
theorem ggX1_addBarge_X1_bargeAt : GoodIn wsX1_addBarge wsX1_bargeAt := goodIn_r _ [7, 1, 8, 18, 19, 20, 21, 22, 23, 24, 25, 26, 27] (by decide +kernel) (by decide +kernel)
set_option maxRecDepth 20000 in
theorem gX1_addBarge_X1_bargeAt : GoodIn wsX1_addBarge (wsV RX1 54 RX1 yX1_bargeAt wsX1_bargeAt) := goodIn_app (goodIn_of _ (by decide +kernel)) ggX1_addBarge_X1_bargeAt
set_option maxRecDepth 20000 in
theorem ggX1_addBarge_X0_makeNew : GoodIn wsX1_addBarge wsX0_makeNew := goodIn_r _ [13, 14, 15, 16, 17, 28, 29, 30, 31] (by decide +kernel) (by decide +kernel)
set_option maxRecDepth 20000 in
theorem gX1_addBarge_X0_makeNew : GoodIn wsX1_addBarge (wsV RX1 96 RX0 yX0_makeNew wsX0_makeNew) := goodIn_app (goodIn_of _ (by decide +kernel)) ggX1_addBarge_X0_makeNew
theorem dX1_addBarge_0 : decode cX1_addBarge 0 = .ok (.aload_n 0, 1) := by decide +kernel
theorem dX1_addBarge_1 : decode cX1_addBarge 1 = .ok (.getfield 51, 3) := by decide +kernel
theorem dX1_addBarge_4 : decode cX1_addBarge 4 = .ok (.istore_n 2, 1) := by decide +kernel
theorem dX1_addBarge_5 : decode cX1_addBarge 5 = .ok (.aload_n 0, 1) := by decide +kernel
theorem dX1_addBarge_6 : decode cX1_addBarge 6 = .ok (.dup, 1) := by decide +kernel
theorem dX1_addBarge_7 : decode cX1_addBarge 7 = .ok (.getfield 51, 3) := by decide +kernel
theorem dX1_addBarge_10 : decode cX1_addBarge 10 = .ok (.iconst 1, 1) := by decide +kernel
theorem dX1_addBarge_11 : decode cX1_addBarge 11 = .ok (.iadd, 1) := by decide +kernel
theorem dX1_addBarge_12 : decode cX1_addBarge 12 = .ok (.putfield 51, 3) := by decide +kernel
theorem dX1_addBarge_15 : decode cX1_addBarge 15 = .ok (.aload_n 0, 1) := by decide +kernel
theorem dX1_addBarge_16 : decode cX1_addBarge 16 = .ok (.iload_n 2, 1) := by decide +kernel
theorem dX1_addBarge_17 : decode cX1_addBarge 17 = .ok (.invokevirtual 54, 3) := by decide +kernel
theorem dX1_addBarge_20 : decode cX1_addBarge 20 = .ok (.astore_n 3, 1) := by decide +kernel
theorem dX1_addBarge_21 : decode cX1_addBarge 21 = .ok (.aload_n 3, 1) := by decide +kernel
theorem dX1_addBarge_22 : decode cX1_addBarge 22 = .ok (.ifnull 14, 3) := by decide +kernel
theorem dX1_addBarge_25 : decode cX1_addBarge 25 = .ok (.aload_n 3, 1) := by decide +kernel
theorem dX1_addBarge_26 : decode cX1_addBarge 26 = .ok (.aload_n 0, 1) := by decide +kernel
theorem dX1_addBarge_27 : decode cX1_addBarge 27 = .ok (.getfield 65, 3) := by decide +kernel
theorem dX1_addBarge_30 : decode cX1_addBarge 30 = .ok (.iload_n 2, 1) := by decide +kernel
theorem dX1_addBarge_31 : decode cX1_addBarge 31 = .ok (.iadd, 1) := by decide +kernel
theorem dX1_addBarge_32 : decode cX1_addBarge 32 = .ok (.iload_n 1, 1) := by decide +kernel
theorem dX1_addBarge_33 : decode cX1_addBarge 33 = .ok (.invokevirtual 96, 3) := by decide +kernel
theorem dX1_addBarge_36 : decode cX1_addBarge 36 = .ok (.iload_n 2, 1) := by decide +kernel
theorem dX1_addBarge_37 : decode cX1_addBarge 37 = .ok (.ireturn, 1) := by decide +kernel
set_option maxRecDepth 20000 in
theorem ggX1_isUnderWay_X1_bargeAt : GoodIn wsX1_isUnderWay wsX1_bargeAt := goodIn_r _ [7, 1, 8, 9, 10, 11, 12, 13, 14, 15, 16, 17, 18] (by decide +kernel) (by decide +kernel)
set_option maxRecDepth 20000 in
theorem gX1_isUnderWay_X1_bargeAt : GoodIn wsX1_isUnderWay (wsV RX1 54 RX1 yX1_bargeAt wsX1_bargeAt) := goodIn_app (goodIn_of _ (by decide +kernel)) ggX1_isUnderWay_X1_bargeAt
theorem dX1_isUnderWay_0 : decode cX1_isUnderWay 0 = .ok (.iconst 0, 1) := by decide +kernel
theorem dX1_isUnderWay_1 : decode cX1_isUnderWay 1 = .ok (.istore_n 2, 1) := by decide +kernel
theorem dX1_isUnderWay_2 : decode cX1_isUnderWay 2 = .ok (.iload_n 2, 1) := by decide +kernel
theorem dX1_isUnderWay_3 : decode cX1_isUnderWay 3 = .ok (.aload_n 0, 1) := by decide +kernel
theorem dX1_isUnderWay_4 : decode cX1_isUnderWay 4 = .ok (.getfield 51, 3) := by decide +kernel
theorem dX1_isUnderWay_7 : decode cX1_isUnderWay 7 = .ok (.if_icmp .ge 29, 3) := by decide +kernel
theorem dX1_isUnderWay_10 : decode cX1_isUnderWay 10 = .ok (.aload_n 0, 1) := by decide +kernel
theorem dX1_isUnderWay_11 : decode cX1_isUnderWay 11 = .ok (.iload_n 2, 1) := by decide +kernel
theorem dX1_isUnderWay_12 : decode cX1_isUnderWay 12 = .ok (.invokevirtual 54, 3) := by decide +kernel
theorem dX1_isUnderWay_15 : decode cX1_isUnderWay 15 = .ok (.astore_n 3, 1) := by decide +kernel
theorem dX1_isUnderWay_16 : decode cX1_isUnderWay 16 = .ok (.aload_n 3, 1) := by decide +kernel
theorem dX1_isUnderWay_17 : decode cX1_isUnderWay 17 = .ok (.ifnull 13, 3) := by decide +kernel
theorem dX1_isUnderWay_20 : decode cX1_isUnderWay 20 = .ok (.aload_n 3, 1) := by decide +kernel
theorem dX1_isUnderWay_21 : decode cX1_isUnderWay 21 = .ok (.getfield 98, 3) := by decide +kernel
theorem dX1_isUnderWay_24 : decode cX1_isUnderWay 24 = .ok (.iload_n 1, 1) := by decide +kernel
theorem dX1_isUnderWay_25 : decode cX1_isUnderWay 25 = .ok (.if_icmp .ne 5, 3) := by decide +kernel
theorem dX1_isUnderWay_28 : decode cX1_isUnderWay 28 = .ok (.iconst 1, 1) := by decide +kernel
theorem dX1_isUnderWay_29 : decode cX1_isUnderWay 29 = .ok (.ireturn, 1) := by decide +kernel
theorem dX1_isUnderWay_30 : decode cX1_isUnderWay 30 = .ok (.iinc 2 1, 3) := by decide +kernel
theorem dX1_isUnderWay_33 : decode cX1_isUnderWay 33 = .ok (.goto (-31), 3) := by decide +kernel
theorem dX1_isUnderWay_36 : decode cX1_isUnderWay 36 = .ok (.iconst 0, 1) := by decide +kernel
theorem dX1_isUnderWay_37 : decode cX1_isUnderWay 37 = .ok (.ireturn, 1) := by decide +kernel
set_option maxRecDepth 20000 in
theorem ggX1_moon_J9_floorMod_7cf53 : GoodIn wsX1_moon wsJ9_floorMod_7cf53 := goodIn_r _ [5] (by decide +kernel) (by decide +kernel)
set_option maxRecDepth 20000 in
theorem gX1_moon_J9_floorMod_7cf53 : GoodIn wsX1_moon (va_wsS RX1 101 yJ9_floorMod_7cf53 wsJ9_floorMod_7cf53) := goodIn_app (goodIn_of _ (by decide +kernel)) ggX1_moon_J9_floorMod_7cf53
theorem dX1_moon_0 : decode cX1_moon 0 = .ok (.aload_n 0, 1) := by decide +kernel
theorem dX1_moon_1 : decode cX1_moon 1 = .ok (.getfield 62, 3) := by decide +kernel
theorem dX1_moon_4 : decode cX1_moon 4 = .ok (.bipush 28, 2) := by decide +kernel
theorem dX1_moon_6 : decode cX1_moon 6 = .ok (.invokestatic 101, 3) := by decide +kernel
theorem dX1_moon_9 : decode cX1_moon 9 = .ok (.istore_n 1, 1) := by decide +kernel
theorem dX1_moon_10 : decode cX1_moon 10 = .ok (.iload_n 1, 1) := by decide +kernel
theorem dX1_moon_11 : decode cX1_moon 11 = .ok (.iconst 3, 1) := by decide +kernel
theorem dX1_moon_12 : decode cX1_moon 12 = .ok (.if_icmp .le 9, 3) := by decide +kernel
theorem dX1_moon_15 : decode cX1_moon 15 = .ok (.iload_n 1, 1) := by decide +kernel
theorem dX1_moon_16 : decode cX1_moon 16 = .ok (.bipush 25, 2) := by decide +kernel
theorem dX1_moon_18 : decode cX1_moon 18 = .ok (.if_icmp .lt 5, 3) := by decide +kernel
theorem dX1_moon_21 : decode cX1_moon 21 = .ok (.iconst 0, 1) := by decide +kernel
theorem dX1_moon_22 : decode cX1_moon 22 = .ok (.ireturn, 1) := by decide +kernel
theorem dX1_moon_23 : decode cX1_moon 23 = .ok (.iload_n 1, 1) := by decide +kernel
theorem dX1_moon_24 : decode cX1_moon 24 = .ok (.bipush 9, 2) := by decide +kernel
theorem dX1_moon_26 : decode cX1_moon 26 = .ok (.if_icmp .le 9, 3) := by decide +kernel
theorem dX1_moon_29 : decode cX1_moon 29 = .ok (.iload_n 1, 1) := by decide +kernel
theorem dX1_moon_30 : decode cX1_moon 30 = .ok (.bipush 19, 2) := by decide +kernel
theorem dX1_moon_32 : decode cX1_moon 32 = .ok (.if_icmp .lt 7, 3) := by decide +kernel
theorem dX1_moon_35 : decode cX1_moon 35 = .ok (.iconst 1, 1) := by decide +kernel
theorem dX1_moon_36 : decode cX1_moon 36 = .ok (.goto 4, 3) := by decide +kernel
theorem dX1_moon_39 : decode cX1_moon 39 = .ok (.iconst 2, 1) := by decide +kernel
theorem dX1_moon_40 : decode cX1_moon 40 = .ok (.ireturn, 1) := by decide +kernel
set_option maxRecDepth 20000 in
theorem ggX1_run_J9_floorMod_7cf53 : GoodIn wsX1_run wsJ9_floorMod_7cf53 := goodIn_r _ [5] (by decide +kernel) (by decide +kernel)
set_option maxRecDepth 20000 in
theorem gX1_run_J9_floorMod_7cf53 : GoodIn wsX1_run (va_wsS RX1 101 yJ9_floorMod_7cf53 wsJ9_floorMod_7cf53) := goodIn_app (goodIn_of _ (by decide +kernel)) ggX1_run_J9_floorMod_7cf53
set_option maxRecDepth 20000 in
theorem ggX1_run_X1_tableEels : GoodIn wsX1_run wsX1_tableEels := goodIn_r _ [10, 11, 16, 17, 18, 19, 20, 21, 22, 23, 24, 25] (by decide +kernel) (by decide +kernel)
set_option maxRecDepth 20000 in
theorem gX1_run_X1_tableEels : GoodIn wsX1_run (wsV RX1 32 RX1 yX1_tableEels wsX1_tableEels) := goodIn_app (goodIn_of _ (by decide +kernel)) ggX1_run_X1_tableEels
set_option maxRecDepth 20000 in
theorem ggX1_run_X1_moon : GoodIn wsX1_run wsX1_moon := goodIn_r _ [15, 1, 2, 3, 4, 5, 16, 17, 18, 19, 20, 21, 22, 23, 24, 25] (by decide +kernel) (by decide +kernel)
set_option maxRecDepth 20000 in
theorem gX1_run_X1_moon : GoodIn wsX1_run (wsV RX1 107 RX1 yX1_moon wsX1_moon) := goodIn_app (goodIn_of _ (by decide +kernel)) ggX1_run_X1_moon
theorem dX1_run_0 : decode cX1_run 0 = .ok (.aload_n 0, 1) := by decide +kernel
theorem dX1_run_1 : decode cX1_run 1 = .ok (.aload_n 0, 1) := by decide +kernel
theorem dX1_run_2 : decode cX1_run 2 = .ok (.getfield 62, 3) := by decide +kernel
theorem dX1_run_5 : decode cX1_run 5 = .ok (.bipush 7, 2) := by decide +kernel
theorem dX1_run_7 : decode cX1_run 7 = .ok (.invokestatic 101, 3) := by decide +kernel
theorem dX1_run_10 : decode cX1_run 10 = .ok (.invokevirtual 32, 3) := by decide +kernel
theorem dX1_run_13 : decode cX1_run 13 = .ok (.istore_n 1, 1) := by decide +kernel
theorem dX1_run_14 : decode cX1_run 14 = .ok (.aload_n 0, 1) := by decide +kernel
theorem dX1_run_15 : decode cX1_run 15 = .ok (.invokevirtual 107, 3) := by decide +kernel
theorem dX1_run_18 : decode cX1_run 18 = .ok (.istore_n 2, 1) := by decide +kernel
theorem dX1_run_19 : decode cX1_run 19 = .ok (.iload_n 2, 1) := by decide +kernel
theorem dX1_run_20 : decode cX1_run 20 = .ok (.ifCond .ne 7, 3) := by decide +kernel
theorem dX1_run_23 : decode cX1_run 23 = .ok (.iconst 3, 1) := by decide +kernel
theorem dX1_run_24 : decode cX1_run 24 = .ok (.iload_n 1, 1) := by decide +kernel
theorem dX1_run_25 : decode cX1_run 25 = .ok (.imul, 1) := by decide +kernel
theorem dX1_run_26 : decode cX1_run 26 = .ok (.ireturn, 1) := by decide +kernel
theorem dX1_run_27 : decode cX1_run 27 = .ok (.iload_n 2, 1) := by decide +kernel
theorem dX1_run_28 : decode cX1_run 28 = .ok (.iconst 1, 1) := by decide +kernel
theorem dX1_run_29 : decode cX1_run 29 = .ok (.if_icmp .ne 9, 3) := by decide +kernel
theorem dX1_run_32 : decode cX1_run 32 = .ok (.iconst 2, 1) := by decide +kernel
theorem dX1_run_33 : decode cX1_run 33 = .ok (.iload_n 1, 1) := by decide +kernel
theorem dX1_run_34 : decode cX1_run 34 = .ok (.imul, 1) := by decide +kernel
theorem dX1_run_35 : decode cX1_run 35 = .ok (.goto 4, 3) := by decide +kernel
theorem dX1_run_38 : decode cX1_run 38 = .ok (.iload_n 1, 1) := by decide +kernel
theorem dX1_run_39 : decode cX1_run 39 = .ok (.ireturn, 1) := by decide +kernel
set_option maxRecDepth 20000 in
theorem ggX1_fact_X1_moon : GoodIn wsX1_fact wsX1_moon := goodIn_r _ [11, 1, 12, 13, 14, 15, 45, 46, 47, 48, 49, 50, 51, 52, 53, 54] (by decide +kernel) (by decide +kernel)
set_option maxRecDepth 20000 in
theorem gX1_fact_X1_moon : GoodIn wsX1_fact (wsV RX1 107 RX1 yX1_moon wsX1_moon) := goodIn_app (goodIn_of _ (by decide +kernel)) ggX1_fact_X1_moon
set_option maxRecDepth 20000 in
theorem ggX1_fact_X1_run : GoodIn wsX1_fact wsX1_run := goodIn_r _ [19, 1, 12, 13, 14, 15, 20, 21, 22, 10, 23, 24, 7, 8, 9, 11, 45, 46, 47, 48, 49, 50, 51, 52, 53, 54] (by decide +kernel) (by decide +kernel)
set_option maxRecDepth 20000 in
theorem gX1_fact_X1_run : GoodIn wsX1_fact (wsV RX1 111 RX1 yX1_run wsX1_run) := goodIn_app (goodIn_of _ (by decide +kernel)) ggX1_fact_X1_run
set_option maxRecDepth 20000 in
theorem ggX1_fact_X1_heldWeirs : GoodIn wsX1_fact wsX1_heldWeirs := goodIn_r _ [28, 2, 29, 30, 31, 10, 32, 33, 34, 35, 36, 37, 38, 39, 45, 46, 47, 48, 49, 50, 51, 52, 53, 54, 55, 56, 57, 58, 59, 60, 61, 62] (by decide +kernel) (by decide +kernel)
set_option maxRecDepth 20000 in
theorem gX1_fact_X1_heldWeirs : GoodIn wsX1_fact (wsV RX1 114 RX1 yX1_heldWeirs wsX1_heldWeirs) := goodIn_app (goodIn_of _ (by decide +kernel)) ggX1_fact_X1_heldWeirs
set_option maxRecDepth 20000 in
theorem ggX1_fact_X1_allEels : GoodIn wsX1_fact wsX1_allEels := goodIn_r _ [43, 2, 44, 29, 30, 31, 10, 32, 33, 45, 46, 47, 48, 49, 50, 51, 52, 53, 54, 55, 56, 57, 58, 59, 60, 61, 62] (by decide +kernel) (by decide +kernel)
set_option maxRecDepth 20000 in
theorem gX1_fact_X1_allEels : GoodIn wsX1_fact (wsV RX1 117 RX1 yX1_allEels wsX1_allEels) := goodIn_app (goodIn_of _ (by decide +kernel)) ggX1_fact_X1_allEels
theorem dX1_fact_0 : decode cX1_fact 0 = .ok (.iload_n 1, 1) := by decide +kernel
theorem dX1_fact_1 : decode cX1_fact 1 = .ok (.tableswitch 96 0 8 #[51, 56, 61, 66, 71, 76, 81, 86, 91], 51) := by decide +kernel
theorem dX1_fact_52 : decode cX1_fact 52 = .ok (.aload_n 0, 1) := by decide +kernel
theorem dX1_fact_53 : decode cX1_fact 53 = .ok (.getfield 62, 3) := by decide +kernel
theorem dX1_fact_56 : decode cX1_fact 56 = .ok (.ireturn, 1) := by decide +kernel
theorem dX1_fact_57 : decode cX1_fact 57 = .ok (.aload_n 0, 1) := by decide +kernel
theorem dX1_fact_58 : decode cX1_fact 58 = .ok (.invokevirtual 107, 3) := by decide +kernel
theorem dX1_fact_61 : decode cX1_fact 61 = .ok (.ireturn, 1) := by decide +kernel
theorem dX1_fact_62 : decode cX1_fact 62 = .ok (.aload_n 0, 1) := by decide +kernel
theorem dX1_fact_63 : decode cX1_fact 63 = .ok (.invokevirtual 111, 3) := by decide +kernel
theorem dX1_fact_66 : decode cX1_fact 66 = .ok (.ireturn, 1) := by decide +kernel
theorem dX1_fact_67 : decode cX1_fact 67 = .ok (.aload_n 0, 1) := by decide +kernel
theorem dX1_fact_68 : decode cX1_fact 68 = .ok (.getfield 39, 3) := by decide +kernel
theorem dX1_fact_71 : decode cX1_fact 71 = .ok (.ireturn, 1) := by decide +kernel
theorem dX1_fact_72 : decode cX1_fact 72 = .ok (.aload_n 0, 1) := by decide +kernel
theorem dX1_fact_73 : decode cX1_fact 73 = .ok (.invokevirtual 114, 3) := by decide +kernel
theorem dX1_fact_76 : decode cX1_fact 76 = .ok (.ireturn, 1) := by decide +kernel
theorem dX1_fact_77 : decode cX1_fact 77 = .ok (.aload_n 0, 1) := by decide +kernel
theorem dX1_fact_78 : decode cX1_fact 78 = .ok (.getfield 51, 3) := by decide +kernel
theorem dX1_fact_81 : decode cX1_fact 81 = .ok (.ireturn, 1) := by decide +kernel
theorem dX1_fact_82 : decode cX1_fact 82 = .ok (.aload_n 0, 1) := by decide +kernel
theorem dX1_fact_83 : decode cX1_fact 83 = .ok (.getfield 65, 3) := by decide +kernel
theorem dX1_fact_86 : decode cX1_fact 86 = .ok (.ireturn, 1) := by decide +kernel
theorem dX1_fact_87 : decode cX1_fact 87 = .ok (.aload_n 0, 1) := by decide +kernel
theorem dX1_fact_88 : decode cX1_fact 88 = .ok (.getfield 68, 3) := by decide +kernel
theorem dX1_fact_91 : decode cX1_fact 91 = .ok (.ireturn, 1) := by decide +kernel
theorem dX1_fact_92 : decode cX1_fact 92 = .ok (.aload_n 0, 1) := by decide +kernel
theorem dX1_fact_93 : decode cX1_fact 93 = .ok (.getfield 71, 3) := by decide +kernel
theorem dX1_fact_96 : decode cX1_fact 96 = .ok (.ireturn, 1) := by decide +kernel
theorem dX1_fact_97 : decode cX1_fact 97 = .ok (.aload_n 0, 1) := by decide +kernel
theorem dX1_fact_98 : decode cX1_fact 98 = .ok (.invokevirtual 117, 3) := by decide +kernel
theorem dX1_fact_101 : decode cX1_fact 101 = .ok (.ireturn, 1) := by decide +kernel
set_option maxRecDepth 20000 in
theorem ggX1_bargeFact_X1_nextInWay : GoodIn wsX1_bargeFact wsX1_nextInWay := goodIn_r _ [8, 9, 10, 2, 1, 11, 12, 13, 7, 14, 15, 16, 17, 18, 19, 20, 21, 22, 23, 24, 25, 26, 27, 32, 33, 34, 35, 36, 37, 38, 39, 40, 41, 42, 43, 44, 45, 46, 47, 48, 49, 28, 29, 30, 31] (by decide +kernel) (by decide +kernel)
set_option maxRecDepth 20000 in
theorem gX1_bargeFact_X1_nextInWay : GoodIn wsX1_bargeFact (wsV RX1 127 RX1 yX1_nextInWay wsX1_nextInWay) := goodIn_app (goodIn_of _ (by decide +kernel)) ggX1_bargeFact_X1_nextInWay
theorem dX1_bargeFact_0 : decode cX1_bargeFact 0 = .ok (.iload_n 2, 1) := by decide +kernel
theorem dX1_bargeFact_1 : decode cX1_bargeFact 1 = .ok (.tableswitch 42 0 2 #[27, 32, 37], 27) := by decide +kernel
theorem dX1_bargeFact_28 : decode cX1_bargeFact 28 = .ok (.aload_n 1, 1) := by decide +kernel
theorem dX1_bargeFact_29 : decode cX1_bargeFact 29 = .ok (.getfield 120, 3) := by decide +kernel
theorem dX1_bargeFact_32 : decode cX1_bargeFact 32 = .ok (.ireturn, 1) := by decide +kernel
theorem dX1_bargeFact_33 : decode cX1_bargeFact 33 = .ok (.aload_n 1, 1) := by decide +kernel
theorem dX1_bargeFact_34 : decode cX1_bargeFact 34 = .ok (.getfield 123, 3) := by decide +kernel
theorem dX1_bargeFact_37 : decode cX1_bargeFact 37 = .ok (.ireturn, 1) := by decide +kernel
theorem dX1_bargeFact_38 : decode cX1_bargeFact 38 = .ok (.aload_n 1, 1) := by decide +kernel
theorem dX1_bargeFact_39 : decode cX1_bargeFact 39 = .ok (.getfield 124, 3) := by decide +kernel
theorem dX1_bargeFact_42 : decode cX1_bargeFact 42 = .ok (.ireturn, 1) := by decide +kernel
theorem dX1_bargeFact_43 : decode cX1_bargeFact 43 = .ok (.aload_n 0, 1) := by decide +kernel
theorem dX1_bargeFact_44 : decode cX1_bargeFact 44 = .ok (.aload_n 1, 1) := by decide +kernel
theorem dX1_bargeFact_45 : decode cX1_bargeFact 45 = .ok (.invokevirtual 127, 3) := by decide +kernel
theorem dX1_bargeFact_48 : decode cX1_bargeFact 48 = .ok (.ireturn, 1) := by decide +kernel
set_option maxRecDepth 20000 in
theorem ggX1_heldWeirs_X1_weirAt : GoodIn wsX1_heldWeirs wsX1_weirAt := goodIn_r _ [6, 1, 7, 14, 15, 16, 17, 18, 19, 20, 21, 22, 23] (by decide +kernel) (by decide +kernel)
set_option maxRecDepth 20000 in
theorem gX1_heldWeirs_X1_weirAt : GoodIn wsX1_heldWeirs (wsV RX1 43 RX1 yX1_weirAt wsX1_weirAt) := goodIn_app (goodIn_of _ (by decide +kernel)) ggX1_heldWeirs_X1_weirAt
set_option maxRecDepth 20000 in
theorem ggX1_heldWeirs_X2_isHeld : GoodIn wsX1_heldWeirs wsX2_isHeld := goodIn_r _ [12, 13, 24, 25, 26, 27, 28, 29, 30, 31] (by decide +kernel) (by decide +kernel)
set_option maxRecDepth 20000 in
theorem gX1_heldWeirs_X2_isHeld : GoodIn wsX1_heldWeirs (wsV RX1 131 RX2 yX2_isHeld wsX2_isHeld) := goodIn_app (goodIn_of _ (by decide +kernel)) ggX1_heldWeirs_X2_isHeld
theorem dX1_heldWeirs_0 : decode cX1_heldWeirs 0 = .ok (.iconst 0, 1) := by decide +kernel
theorem dX1_heldWeirs_1 : decode cX1_heldWeirs 1 = .ok (.istore_n 1, 1) := by decide +kernel
theorem dX1_heldWeirs_2 : decode cX1_heldWeirs 2 = .ok (.iconst 0, 1) := by decide +kernel
theorem dX1_heldWeirs_3 : decode cX1_heldWeirs 3 = .ok (.istore_n 2, 1) := by decide +kernel
theorem dX1_heldWeirs_4 : decode cX1_heldWeirs 4 = .ok (.iload_n 2, 1) := by decide +kernel
theorem dX1_heldWeirs_5 : decode cX1_heldWeirs 5 = .ok (.aload_n 0, 1) := by decide +kernel
theorem dX1_heldWeirs_6 : decode cX1_heldWeirs 6 = .ok (.getfield 39, 3) := by decide +kernel
theorem dX1_heldWeirs_9 : decode cX1_heldWeirs 9 = .ok (.if_icmp .ge 29, 3) := by decide +kernel
theorem dX1_heldWeirs_12 : decode cX1_heldWeirs 12 = .ok (.aload_n 0, 1) := by decide +kernel
theorem dX1_heldWeirs_13 : decode cX1_heldWeirs 13 = .ok (.iload_n 2, 1) := by decide +kernel
theorem dX1_heldWeirs_14 : decode cX1_heldWeirs 14 = .ok (.invokevirtual 43, 3) := by decide +kernel
theorem dX1_heldWeirs_17 : decode cX1_heldWeirs 17 = .ok (.astore_n 3, 1) := by decide +kernel
theorem dX1_heldWeirs_18 : decode cX1_heldWeirs 18 = .ok (.aload_n 3, 1) := by decide +kernel
theorem dX1_heldWeirs_19 : decode cX1_heldWeirs 19 = .ok (.ifnull 13, 3) := by decide +kernel
theorem dX1_heldWeirs_22 : decode cX1_heldWeirs 22 = .ok (.aload_n 3, 1) := by decide +kernel
theorem dX1_heldWeirs_23 : decode cX1_heldWeirs 23 = .ok (.invokevirtual 131, 3) := by decide +kernel
theorem dX1_heldWeirs_26 : decode cX1_heldWeirs 26 = .ok (.ifCond .eq 6, 3) := by decide +kernel
theorem dX1_heldWeirs_29 : decode cX1_heldWeirs 29 = .ok (.iinc 1 1, 3) := by decide +kernel
theorem dX1_heldWeirs_32 : decode cX1_heldWeirs 32 = .ok (.iinc 2 1, 3) := by decide +kernel
theorem dX1_heldWeirs_35 : decode cX1_heldWeirs 35 = .ok (.goto (-31), 3) := by decide +kernel
theorem dX1_heldWeirs_38 : decode cX1_heldWeirs 38 = .ok (.iload_n 1, 1) := by decide +kernel
theorem dX1_heldWeirs_39 : decode cX1_heldWeirs 39 = .ok (.ireturn, 1) := by decide +kernel
set_option maxRecDepth 20000 in
theorem ggX1_heldWattle_X1_weirAt : GoodIn wsX1_heldWattle wsX1_weirAt := goodIn_r _ [7, 1, 8, 15, 16, 17, 18, 19, 20, 21, 22, 23, 24] (by decide +kernel) (by decide +kernel)
set_option maxRecDepth 20000 in
theorem gX1_heldWattle_X1_weirAt : GoodIn wsX1_heldWattle (wsV RX1 43 RX1 yX1_weirAt wsX1_weirAt) := goodIn_app (goodIn_of _ (by decide +kernel)) ggX1_heldWattle_X1_weirAt
set_option maxRecDepth 20000 in
theorem ggX1_heldWattle_X2_isHeld : GoodIn wsX1_heldWattle wsX2_isHeld := goodIn_r _ [13, 14, 25, 26, 27, 28, 29, 30, 31, 32] (by decide +kernel) (by decide +kernel)
set_option maxRecDepth 20000 in
theorem gX1_heldWattle_X2_isHeld : GoodIn wsX1_heldWattle (wsV RX1 131 RX2 yX2_isHeld wsX2_isHeld) := goodIn_app (goodIn_of _ (by decide +kernel)) ggX1_heldWattle_X2_isHeld
theorem dX1_heldWattle_0 : decode cX1_heldWattle 0 = .ok (.iconst 0, 1) := by decide +kernel
theorem dX1_heldWattle_1 : decode cX1_heldWattle 1 = .ok (.istore_n 1, 1) := by decide +kernel
theorem dX1_heldWattle_2 : decode cX1_heldWattle 2 = .ok (.iconst 0, 1) := by decide +kernel
theorem dX1_heldWattle_3 : decode cX1_heldWattle 3 = .ok (.istore_n 2, 1) := by decide +kernel
theorem dX1_heldWattle_4 : decode cX1_heldWattle 4 = .ok (.iload_n 2, 1) := by decide +kernel
theorem dX1_heldWattle_5 : decode cX1_heldWattle 5 = .ok (.aload_n 0, 1) := by decide +kernel
theorem dX1_heldWattle_6 : decode cX1_heldWattle 6 = .ok (.getfield 39, 3) := by decide +kernel
theorem dX1_heldWattle_9 : decode cX1_heldWattle 9 = .ok (.if_icmp .ge 33, 3) := by decide +kernel
theorem dX1_heldWattle_12 : decode cX1_heldWattle 12 = .ok (.aload_n 0, 1) := by decide +kernel
theorem dX1_heldWattle_13 : decode cX1_heldWattle 13 = .ok (.iload_n 2, 1) := by decide +kernel
theorem dX1_heldWattle_14 : decode cX1_heldWattle 14 = .ok (.invokevirtual 43, 3) := by decide +kernel
theorem dX1_heldWattle_17 : decode cX1_heldWattle 17 = .ok (.astore_n 3, 1) := by decide +kernel
theorem dX1_heldWattle_18 : decode cX1_heldWattle 18 = .ok (.aload_n 3, 1) := by decide +kernel
theorem dX1_heldWattle_19 : decode cX1_heldWattle 19 = .ok (.ifnull 17, 3) := by decide +kernel
theorem dX1_heldWattle_22 : decode cX1_heldWattle 22 = .ok (.aload_n 3, 1) := by decide +kernel
theorem dX1_heldWattle_23 : decode cX1_heldWattle 23 = .ok (.invokevirtual 131, 3) := by decide +kernel
theorem dX1_heldWattle_26 : decode cX1_heldWattle 26 = .ok (.ifCond .eq 10, 3) := by decide +kernel
theorem dX1_heldWattle_29 : decode cX1_heldWattle 29 = .ok (.iload_n 1, 1) := by decide +kernel
theorem dX1_heldWattle_30 : decode cX1_heldWattle 30 = .ok (.aload_n 3, 1) := by decide +kernel
theorem dX1_heldWattle_31 : decode cX1_heldWattle 31 = .ok (.getfield 135, 3) := by decide +kernel
theorem dX1_heldWattle_34 : decode cX1_heldWattle 34 = .ok (.iadd, 1) := by decide +kernel
theorem dX1_heldWattle_35 : decode cX1_heldWattle 35 = .ok (.istore_n 1, 1) := by decide +kernel
theorem dX1_heldWattle_36 : decode cX1_heldWattle 36 = .ok (.iinc 2 1, 3) := by decide +kernel
theorem dX1_heldWattle_39 : decode cX1_heldWattle 39 = .ok (.goto (-35), 3) := by decide +kernel
theorem dX1_heldWattle_42 : decode cX1_heldWattle 42 = .ok (.iload_n 1, 1) := by decide +kernel
theorem dX1_heldWattle_43 : decode cX1_heldWattle 43 = .ok (.ireturn, 1) := by decide +kernel
set_option maxRecDepth 20000 in
theorem ggX1_allEels_X1_weirAt : GoodIn wsX1_allEels wsX1_weirAt := goodIn_r _ [7, 1, 8, 9, 10, 11, 12, 13, 14, 15, 16, 17, 18] (by decide +kernel) (by decide +kernel)
set_option maxRecDepth 20000 in
theorem gX1_allEels_X1_weirAt : GoodIn wsX1_allEels (wsV RX1 43 RX1 yX1_weirAt wsX1_weirAt) := goodIn_app (goodIn_of _ (by decide +kernel)) ggX1_allEels_X1_weirAt
theorem dX1_allEels_0 : decode cX1_allEels 0 = .ok (.iconst 0, 1) := by decide +kernel
theorem dX1_allEels_1 : decode cX1_allEels 1 = .ok (.istore_n 1, 1) := by decide +kernel
theorem dX1_allEels_2 : decode cX1_allEels 2 = .ok (.iconst 0, 1) := by decide +kernel
theorem dX1_allEels_3 : decode cX1_allEels 3 = .ok (.istore_n 2, 1) := by decide +kernel
theorem dX1_allEels_4 : decode cX1_allEels 4 = .ok (.iload_n 2, 1) := by decide +kernel
theorem dX1_allEels_5 : decode cX1_allEels 5 = .ok (.aload_n 0, 1) := by decide +kernel
theorem dX1_allEels_6 : decode cX1_allEels 6 = .ok (.getfield 39, 3) := by decide +kernel
theorem dX1_allEels_9 : decode cX1_allEels 9 = .ok (.if_icmp .ge 26, 3) := by decide +kernel
theorem dX1_allEels_12 : decode cX1_allEels 12 = .ok (.aload_n 0, 1) := by decide +kernel
theorem dX1_allEels_13 : decode cX1_allEels 13 = .ok (.iload_n 2, 1) := by decide +kernel
theorem dX1_allEels_14 : decode cX1_allEels 14 = .ok (.invokevirtual 43, 3) := by decide +kernel
theorem dX1_allEels_17 : decode cX1_allEels 17 = .ok (.astore_n 3, 1) := by decide +kernel
theorem dX1_allEels_18 : decode cX1_allEels 18 = .ok (.aload_n 3, 1) := by decide +kernel
theorem dX1_allEels_19 : decode cX1_allEels 19 = .ok (.ifnull 10, 3) := by decide +kernel
theorem dX1_allEels_22 : decode cX1_allEels 22 = .ok (.iload_n 1, 1) := by decide +kernel
theorem dX1_allEels_23 : decode cX1_allEels 23 = .ok (.aload_n 3, 1) := by decide +kernel
theorem dX1_allEels_24 : decode cX1_allEels 24 = .ok (.getfield 138, 3) := by decide +kernel
theorem dX1_allEels_27 : decode cX1_allEels 27 = .ok (.iadd, 1) := by decide +kernel
theorem dX1_allEels_28 : decode cX1_allEels 28 = .ok (.istore_n 1, 1) := by decide +kernel
theorem dX1_allEels_29 : decode cX1_allEels 29 = .ok (.iinc 2 1, 3) := by decide +kernel
theorem dX1_allEels_32 : decode cX1_allEels 32 = .ok (.goto (-28), 3) := by decide +kernel
theorem dX1_allEels_35 : decode cX1_allEels 35 = .ok (.iload_n 1, 1) := by decide +kernel
theorem dX1_allEels_36 : decode cX1_allEels 36 = .ok (.ireturn, 1) := by decide +kernel
set_option maxRecDepth 20000 in
theorem ggX1_weirsInWay_X1_weirAt : GoodIn wsX1_weirsInWay wsX1_weirAt := goodIn_r _ [6, 1, 7, 20, 21, 22, 23, 24, 25, 26, 27, 28, 29] (by decide +kernel) (by decide +kernel)
set_option maxRecDepth 20000 in
theorem gX1_weirsInWay_X1_weirAt : GoodIn wsX1_weirsInWay (wsV RX1 43 RX1 yX1_weirAt wsX1_weirAt) := goodIn_app (goodIn_of _ (by decide +kernel)) ggX1_weirsInWay_X1_weirAt
set_option maxRecDepth 20000 in
theorem ggX1_weirsInWay_X2_isInWay : GoodIn wsX1_weirsInWay wsX2_isInWay := goodIn_r _ [12, 13, 14, 15, 16, 11, 17, 18, 19, 30, 31, 32, 33, 34, 35, 36, 37] (by decide +kernel) (by decide +kernel)
set_option maxRecDepth 20000 in
theorem gX1_weirsInWay_X2_isInWay : GoodIn wsX1_weirsInWay (wsV RX1 141 RX2 yX2_isInWay wsX2_isInWay) := goodIn_app (goodIn_of _ (by decide +kernel)) ggX1_weirsInWay_X2_isInWay
theorem dX1_weirsInWay_0 : decode cX1_weirsInWay 0 = .ok (.iconst 0, 1) := by decide +kernel
theorem dX1_weirsInWay_1 : decode cX1_weirsInWay 1 = .ok (.istore_n 2, 1) := by decide +kernel
theorem dX1_weirsInWay_2 : decode cX1_weirsInWay 2 = .ok (.iconst 0, 1) := by decide +kernel
theorem dX1_weirsInWay_3 : decode cX1_weirsInWay 3 = .ok (.istore_n 3, 1) := by decide +kernel
theorem dX1_weirsInWay_4 : decode cX1_weirsInWay 4 = .ok (.iload_n 3, 1) := by decide +kernel
theorem dX1_weirsInWay_5 : decode cX1_weirsInWay 5 = .ok (.aload_n 0, 1) := by decide +kernel
theorem dX1_weirsInWay_6 : decode cX1_weirsInWay 6 = .ok (.getfield 39, 3) := by decide +kernel
theorem dX1_weirsInWay_9 : decode cX1_weirsInWay 9 = .ok (.if_icmp .ge 33, 3) := by decide +kernel
theorem dX1_weirsInWay_12 : decode cX1_weirsInWay 12 = .ok (.aload_n 0, 1) := by decide +kernel
theorem dX1_weirsInWay_13 : decode cX1_weirsInWay 13 = .ok (.iload_n 3, 1) := by decide +kernel
theorem dX1_weirsInWay_14 : decode cX1_weirsInWay 14 = .ok (.invokevirtual 43, 3) := by decide +kernel
theorem dX1_weirsInWay_17 : decode cX1_weirsInWay 17 = .ok (.astore 4, 2) := by decide +kernel
theorem dX1_weirsInWay_19 : decode cX1_weirsInWay 19 = .ok (.aload 4, 2) := by decide +kernel
theorem dX1_weirsInWay_21 : decode cX1_weirsInWay 21 = .ok (.ifnull 15, 3) := by decide +kernel
theorem dX1_weirsInWay_24 : decode cX1_weirsInWay 24 = .ok (.aload 4, 2) := by decide +kernel
theorem dX1_weirsInWay_26 : decode cX1_weirsInWay 26 = .ok (.iload_n 1, 1) := by decide +kernel
theorem dX1_weirsInWay_27 : decode cX1_weirsInWay 27 = .ok (.invokevirtual 141, 3) := by decide +kernel
theorem dX1_weirsInWay_30 : decode cX1_weirsInWay 30 = .ok (.ifCond .eq 6, 3) := by decide +kernel
theorem dX1_weirsInWay_33 : decode cX1_weirsInWay 33 = .ok (.iinc 2 1, 3) := by decide +kernel
theorem dX1_weirsInWay_36 : decode cX1_weirsInWay 36 = .ok (.iinc 3 1, 3) := by decide +kernel
theorem dX1_weirsInWay_39 : decode cX1_weirsInWay 39 = .ok (.goto (-35), 3) := by decide +kernel
theorem dX1_weirsInWay_42 : decode cX1_weirsInWay 42 = .ok (.iload_n 2, 1) := by decide +kernel
theorem dX1_weirsInWay_43 : decode cX1_weirsInWay 43 = .ok (.ireturn, 1) := by decide +kernel
set_option maxRecDepth 20000 in
theorem ggX1_richestHeld_X1_weirAt : GoodIn wsX1_richestHeld wsX1_weirAt := goodIn_r _ [7, 1, 8, 15, 16, 17, 18, 19, 20, 21, 22, 23, 24] (by decide +kernel) (by decide +kernel)
set_option maxRecDepth 20000 in
theorem gX1_richestHeld_X1_weirAt : GoodIn wsX1_richestHeld (wsV RX1 43 RX1 yX1_weirAt wsX1_weirAt) := goodIn_app (goodIn_of _ (by decide +kernel)) ggX1_richestHeld_X1_weirAt
set_option maxRecDepth 20000 in
theorem ggX1_richestHeld_X2_isHeld : GoodIn wsX1_richestHeld wsX2_isHeld := goodIn_r _ [13, 14, 25, 26, 27, 28, 29, 30, 31, 32] (by decide +kernel) (by decide +kernel)
set_option maxRecDepth 20000 in
theorem gX1_richestHeld_X2_isHeld : GoodIn wsX1_richestHeld (wsV RX1 131 RX2 yX2_isHeld wsX2_isHeld) := goodIn_app (goodIn_of _ (by decide +kernel)) ggX1_richestHeld_X2_isHeld
theorem dX1_richestHeld_0 : decode cX1_richestHeld 0 = .ok (.iconst (-1), 1) := by decide +kernel
theorem dX1_richestHeld_1 : decode cX1_richestHeld 1 = .ok (.istore_n 1, 1) := by decide +kernel
theorem dX1_richestHeld_2 : decode cX1_richestHeld 2 = .ok (.iconst 0, 1) := by decide +kernel
theorem dX1_richestHeld_3 : decode cX1_richestHeld 3 = .ok (.istore_n 2, 1) := by decide +kernel
theorem dX1_richestHeld_4 : decode cX1_richestHeld 4 = .ok (.iconst 0, 1) := by decide +kernel
theorem dX1_richestHeld_5 : decode cX1_richestHeld 5 = .ok (.istore_n 3, 1) := by decide +kernel
theorem dX1_richestHeld_6 : decode cX1_richestHeld 6 = .ok (.iload_n 3, 1) := by decide +kernel
theorem dX1_richestHeld_7 : decode cX1_richestHeld 7 = .ok (.aload_n 0, 1) := by decide +kernel
theorem dX1_richestHeld_8 : decode cX1_richestHeld 8 = .ok (.getfield 39, 3) := by decide +kernel
theorem dX1_richestHeld_11 : decode cX1_richestHeld 11 = .ok (.if_icmp .ge 51, 3) := by decide +kernel
theorem dX1_richestHeld_14 : decode cX1_richestHeld 14 = .ok (.aload_n 0, 1) := by decide +kernel
theorem dX1_richestHeld_15 : decode cX1_richestHeld 15 = .ok (.iload_n 3, 1) := by decide +kernel
theorem dX1_richestHeld_16 : decode cX1_richestHeld 16 = .ok (.invokevirtual 43, 3) := by decide +kernel
theorem dX1_richestHeld_19 : decode cX1_richestHeld 19 = .ok (.astore 4, 2) := by decide +kernel
theorem dX1_richestHeld_21 : decode cX1_richestHeld 21 = .ok (.aload 4, 2) := by decide +kernel
theorem dX1_richestHeld_23 : decode cX1_richestHeld 23 = .ok (.ifnull 33, 3) := by decide +kernel
theorem dX1_richestHeld_26 : decode cX1_richestHeld 26 = .ok (.aload 4, 2) := by decide +kernel
theorem dX1_richestHeld_28 : decode cX1_richestHeld 28 = .ok (.invokevirtual 131, 3) := by decide +kernel
theorem dX1_richestHeld_31 : decode cX1_richestHeld 31 = .ok (.ifCond .eq 25, 3) := by decide +kernel
theorem dX1_richestHeld_34 : decode cX1_richestHeld 34 = .ok (.iload_n 1, 1) := by decide +kernel
theorem dX1_richestHeld_35 : decode cX1_richestHeld 35 = .ok (.iconst (-1), 1) := by decide +kernel
theorem dX1_richestHeld_36 : decode cX1_richestHeld 36 = .ok (.if_icmp .eq 12, 3) := by decide +kernel
theorem dX1_richestHeld_39 : decode cX1_richestHeld 39 = .ok (.aload 4, 2) := by decide +kernel
theorem dX1_richestHeld_41 : decode cX1_richestHeld 41 = .ok (.getfield 145, 3) := by decide +kernel
theorem dX1_richestHeld_44 : decode cX1_richestHeld 44 = .ok (.iload_n 2, 1) := by decide +kernel
theorem dX1_richestHeld_45 : decode cX1_richestHeld 45 = .ok (.if_icmp .le 11, 3) := by decide +kernel
theorem dX1_richestHeld_48 : decode cX1_richestHeld 48 = .ok (.iload_n 3, 1) := by decide +kernel
theorem dX1_richestHeld_49 : decode cX1_richestHeld 49 = .ok (.istore_n 1, 1) := by decide +kernel
theorem dX1_richestHeld_50 : decode cX1_richestHeld 50 = .ok (.aload 4, 2) := by decide +kernel
theorem dX1_richestHeld_52 : decode cX1_richestHeld 52 = .ok (.getfield 145, 3) := by decide +kernel
theorem dX1_richestHeld_55 : decode cX1_richestHeld 55 = .ok (.istore_n 2, 1) := by decide +kernel
theorem dX1_richestHeld_56 : decode cX1_richestHeld 56 = .ok (.iinc 3 1, 3) := by decide +kernel
theorem dX1_richestHeld_59 : decode cX1_richestHeld 59 = .ok (.goto (-53), 3) := by decide +kernel
theorem dX1_richestHeld_62 : decode cX1_richestHeld 62 = .ok (.iload_n 1, 1) := by decide +kernel
theorem dX1_richestHeld_63 : decode cX1_richestHeld 63 = .ok (.ireturn, 1) := by decide +kernel
set_option maxRecDepth 20000 in
theorem ggX1_nextInWay_X1_weirAt : GoodIn wsX1_nextInWay wsX1_weirAt := goodIn_r _ [9, 1, 10, 23, 24, 25, 26, 27, 28, 29, 30, 31, 32] (by decide +kernel) (by decide +kernel)
set_option maxRecDepth 20000 in
theorem gX1_nextInWay_X1_weirAt : GoodIn wsX1_nextInWay (wsV RX1 43 RX1 yX1_weirAt wsX1_weirAt) := goodIn_app (goodIn_of _ (by decide +kernel)) ggX1_nextInWay_X1_weirAt
set_option maxRecDepth 20000 in
theorem ggX1_nextInWay_X2_isInWay : GoodIn wsX1_nextInWay wsX2_isInWay := goodIn_r _ [15, 16, 17, 18, 19, 14, 20, 21, 22, 33, 34, 35, 36, 37, 38, 39, 40] (by decide +kernel) (by decide +kernel)
set_option maxRecDepth 20000 in
theorem gX1_nextInWay_X2_isInWay : GoodIn wsX1_nextInWay (wsV RX1 141 RX2 yX2_isInWay wsX2_isInWay) := goodIn_app (goodIn_of _ (by decide +kernel)) ggX1_nextInWay_X2_isInWay
theorem dX1_nextInWay_0 : decode cX1_nextInWay 0 = .ok (.iconst (-1), 1) := by decide +kernel
theorem dX1_nextInWay_1 : decode cX1_nextInWay 1 = .ok (.istore_n 2, 1) := by decide +kernel
theorem dX1_nextInWay_2 : decode cX1_nextInWay 2 = .ok (.bipush 40, 2) := by decide +kernel
theorem dX1_nextInWay_4 : decode cX1_nextInWay 4 = .ok (.istore_n 3, 1) := by decide +kernel
theorem dX1_nextInWay_5 : decode cX1_nextInWay 5 = .ok (.iconst 0, 1) := by decide +kernel
theorem dX1_nextInWay_6 : decode cX1_nextInWay 6 = .ok (.istore 4, 2) := by decide +kernel
theorem dX1_nextInWay_8 : decode cX1_nextInWay 8 = .ok (.iload 4, 2) := by decide +kernel
theorem dX1_nextInWay_10 : decode cX1_nextInWay 10 = .ok (.aload_n 0, 1) := by decide +kernel
theorem dX1_nextInWay_11 : decode cX1_nextInWay 11 = .ok (.getfield 39, 3) := by decide +kernel
theorem dX1_nextInWay_14 : decode cX1_nextInWay 14 = .ok (.if_icmp .ge 64, 3) := by decide +kernel
theorem dX1_nextInWay_17 : decode cX1_nextInWay 17 = .ok (.aload_n 0, 1) := by decide +kernel
theorem dX1_nextInWay_18 : decode cX1_nextInWay 18 = .ok (.iload 4, 2) := by decide +kernel
theorem dX1_nextInWay_20 : decode cX1_nextInWay 20 = .ok (.invokevirtual 43, 3) := by decide +kernel
theorem dX1_nextInWay_23 : decode cX1_nextInWay 23 = .ok (.astore 5, 2) := by decide +kernel
theorem dX1_nextInWay_25 : decode cX1_nextInWay 25 = .ok (.aload 5, 2) := by decide +kernel
theorem dX1_nextInWay_27 : decode cX1_nextInWay 27 = .ok (.ifnull 45, 3) := by decide +kernel
theorem dX1_nextInWay_30 : decode cX1_nextInWay 30 = .ok (.aload 5, 2) := by decide +kernel
theorem dX1_nextInWay_32 : decode cX1_nextInWay 32 = .ok (.getfield 93, 3) := by decide +kernel
theorem dX1_nextInWay_35 : decode cX1_nextInWay 35 = .ok (.aload_n 1, 1) := by decide +kernel
theorem dX1_nextInWay_36 : decode cX1_nextInWay 36 = .ok (.getfield 123, 3) := by decide +kernel
theorem dX1_nextInWay_39 : decode cX1_nextInWay 39 = .ok (.if_icmp .le 33, 3) := by decide +kernel
theorem dX1_nextInWay_42 : decode cX1_nextInWay 42 = .ok (.aload 5, 2) := by decide +kernel
theorem dX1_nextInWay_44 : decode cX1_nextInWay 44 = .ok (.getfield 93, 3) := by decide +kernel
theorem dX1_nextInWay_47 : decode cX1_nextInWay 47 = .ok (.iload_n 3, 1) := by decide +kernel
theorem dX1_nextInWay_48 : decode cX1_nextInWay 48 = .ok (.if_icmp .ge 24, 3) := by decide +kernel
theorem dX1_nextInWay_51 : decode cX1_nextInWay 51 = .ok (.aload 5, 2) := by decide +kernel
theorem dX1_nextInWay_53 : decode cX1_nextInWay 53 = .ok (.aload_n 1, 1) := by decide +kernel
theorem dX1_nextInWay_54 : decode cX1_nextInWay 54 = .ok (.getfield 120, 3) := by decide +kernel
theorem dX1_nextInWay_57 : decode cX1_nextInWay 57 = .ok (.invokevirtual 141, 3) := by decide +kernel
theorem dX1_nextInWay_60 : decode cX1_nextInWay 60 = .ok (.ifCond .eq 12, 3) := by decide +kernel
theorem dX1_nextInWay_63 : decode cX1_nextInWay 63 = .ok (.iload 4, 2) := by decide +kernel
theorem dX1_nextInWay_65 : decode cX1_nextInWay 65 = .ok (.istore_n 2, 1) := by decide +kernel
theorem dX1_nextInWay_66 : decode cX1_nextInWay 66 = .ok (.aload 5, 2) := by decide +kernel
theorem dX1_nextInWay_68 : decode cX1_nextInWay 68 = .ok (.getfield 93, 3) := by decide +kernel
theorem dX1_nextInWay_71 : decode cX1_nextInWay 71 = .ok (.istore_n 3, 1) := by decide +kernel
theorem dX1_nextInWay_72 : decode cX1_nextInWay 72 = .ok (.iinc 4 1, 3) := by decide +kernel
theorem dX1_nextInWay_75 : decode cX1_nextInWay 75 = .ok (.goto (-67), 3) := by decide +kernel
theorem dX1_nextInWay_78 : decode cX1_nextInWay 78 = .ok (.iload_n 2, 1) := by decide +kernel
theorem dX1_nextInWay_79 : decode cX1_nextInWay 79 = .ok (.ireturn, 1) := by decide +kernel
set_option maxRecDepth 20000 in
theorem ggX1_goThroughNights_X1_catchEels : GoodIn wsX1_goThroughNights wsX1_catchEels := goodIn_r _ [6, 7, 8, 9, 10, 5, 11, 1, 12, 13, 14, 15, 16, 17, 18, 19, 20, 21, 22, 23, 24, 25, 26, 27, 28, 29, 30, 31, 32, 33, 34, 35, 36, 37, 38, 39, 40, 41, 42, 43, 44, 45, 46, 47, 48, 49, 50, 51, 52, 131, 132, 133, 134, 135, 136, 137, 138, 139, 140, 141, 142, 143, 144, 145, 146, 147, 148] (by decide +kernel) (by decide +kernel)
set_option maxRecDepth 20000 in
theorem gX1_goThroughNights_X1_catchEels : GoodIn wsX1_goThroughNights (wsV RX1 148 RX1 yX1_catchEels wsX1_catchEels) := goodIn_app (goodIn_of _ (by decide +kernel)) ggX1_goThroughNights_X1_catchEels
set_option maxRecDepth 20000 in
theorem ggX1_goThroughNights_X1_moveBarges : GoodIn wsX1_goThroughNights wsX1_moveBarges := goodIn_r _ [56, 57, 58, 59, 60, 61, 5, 62, 63, 64, 65, 66, 67, 7, 68, 69, 30, 31, 32, 33, 34, 70, 71, 72, 38, 73, 46, 74, 36, 37, 39, 40, 41, 75, 76, 77, 78, 79, 80, 81, 50, 51, 52, 82, 83, 84, 85, 86, 87, 88, 89, 90, 91, 92, 49, 93, 94, 95, 96, 47, 131, 132, 133, 134, 135, 136, 137, 138, 139, 140, 141, 142, 143, 144, 145, 146, 147, 148, 149, 150, 151, 152] (by decide +kernel) (by decide +kernel)
set_option maxRecDepth 20000 in
theorem gX1_goThroughNights_X1_moveBarges : GoodIn wsX1_goThroughNights (wsV RX1 151 RX1 yX1_moveBarges wsX1_moveBarges) := goodIn_app (goodIn_of _ (by decide +kernel)) ggX1_goThroughNights_X1_moveBarges
set_option maxRecDepth 20000 in
theorem ggX1_goThroughNights_X1_leaveOutArrived : GoodIn wsX1_goThroughNights wsX1_leaveOutArrived := goodIn_r _ [100, 57, 68, 101, 59, 60, 61, 5, 62, 63, 102, 103, 104, 105, 106, 107, 78, 108, 109, 110, 80, 111, 131, 132, 133, 134, 135, 136, 137, 138, 139, 140, 149, 150, 151, 152] (by decide +kernel) (by decide +kernel)
set_option maxRecDepth 20000 in
theorem gX1_goThroughNights_X1_leaveOutArrived : GoodIn wsX1_goThroughNights (wsV RX1 154 RX1 yX1_leaveOutArrived wsX1_leaveOutArrived) := goodIn_app (goodIn_of _ (by decide +kernel)) ggX1_goThroughNights_X1_leaveOutArrived
set_option maxRecDepth 20000 in
theorem ggX1_goThroughNights_X1_rotWattle : GoodIn wsX1_goThroughNights wsX1_rotWattle := goodIn_r _ [115, 7, 21, 22, 23, 5, 24, 1, 12, 13, 14, 15, 30, 31, 32, 33, 34, 116, 117, 118, 38, 119, 40, 120, 94, 95, 96, 47, 131, 132, 133, 134, 135, 136, 137, 138, 139, 140, 141, 142, 143, 144, 145, 146, 147, 148] (by decide +kernel) (by decide +kernel)
set_option maxRecDepth 20000 in
theorem gX1_goThroughNights_X1_rotWattle : GoodIn wsX1_goThroughNights (wsV RX1 157 RX1 yX1_rotWattle wsX1_rotWattle) := goodIn_app (goodIn_of _ (by decide +kernel)) ggX1_goThroughNights_X1_rotWattle
set_option maxRecDepth 20000 in
theorem ggX1_goThroughNights_J9_floorMod_7cf53 : GoodIn wsX1_goThroughNights wsJ9_floorMod_7cf53 := goodIn_r _ [15] (by decide +kernel) (by decide +kernel)
set_option maxRecDepth 20000 in
theorem gX1_goThroughNights_J9_floorMod_7cf53 : GoodIn wsX1_goThroughNights (va_wsS RX1 101 yJ9_floorMod_7cf53 wsJ9_floorMod_7cf53) := goodIn_app (goodIn_of _ (by decide +kernel)) ggX1_goThroughNights_J9_floorMod_7cf53
set_option maxRecDepth 20000 in
theorem ggX1_goThroughNights_X1_collectRents : GoodIn wsX1_goThroughNights wsX1_collectRents := goodIn_r _ [124, 7, 125, 30, 31, 32, 5, 33, 34, 116, 117, 118, 38, 119, 40, 126, 127, 128, 129, 92, 130, 48, 131, 132, 133, 134, 135, 136, 137, 138, 139, 140, 141, 142, 143, 144, 145, 146, 147, 148] (by decide +kernel) (by decide +kernel)
set_option maxRecDepth 20000 in
theorem gX1_goThroughNights_X1_collectRents : GoodIn wsX1_goThroughNights (wsV RX1 160 RX1 yX1_collectRents wsX1_collectRents) := goodIn_app (goodIn_of _ (by decide +kernel)) ggX1_goThroughNights_X1_collectRents
theorem dX1_goThroughNights_0 : decode cX1_goThroughNights 0 = .ok (.iconst 0, 1) := by decide +kernel
theorem dX1_goThroughNights_1 : decode cX1_goThroughNights 1 = .ok (.istore_n 2, 1) := by decide +kernel
theorem dX1_goThroughNights_2 : decode cX1_goThroughNights 2 = .ok (.iload_n 2, 1) := by decide +kernel
theorem dX1_goThroughNights_3 : decode cX1_goThroughNights 3 = .ok (.iload_n 1, 1) := by decide +kernel
theorem dX1_goThroughNights_4 : decode cX1_goThroughNights 4 = .ok (.if_icmp .ge 53, 3) := by decide +kernel
theorem dX1_goThroughNights_7 : decode cX1_goThroughNights 7 = .ok (.aload_n 0, 1) := by decide +kernel
theorem dX1_goThroughNights_8 : decode cX1_goThroughNights 8 = .ok (.invokevirtual 148, 3) := by decide +kernel
theorem dX1_goThroughNights_11 : decode cX1_goThroughNights 11 = .ok (.aload_n 0, 1) := by decide +kernel
theorem dX1_goThroughNights_12 : decode cX1_goThroughNights 12 = .ok (.invokevirtual 151, 3) := by decide +kernel
theorem dX1_goThroughNights_15 : decode cX1_goThroughNights 15 = .ok (.aload_n 0, 1) := by decide +kernel
theorem dX1_goThroughNights_16 : decode cX1_goThroughNights 16 = .ok (.invokevirtual 154, 3) := by decide +kernel
theorem dX1_goThroughNights_19 : decode cX1_goThroughNights 19 = .ok (.aload_n 0, 1) := by decide +kernel
theorem dX1_goThroughNights_20 : decode cX1_goThroughNights 20 = .ok (.invokevirtual 157, 3) := by decide +kernel
theorem dX1_goThroughNights_23 : decode cX1_goThroughNights 23 = .ok (.aload_n 0, 1) := by decide +kernel
theorem dX1_goThroughNights_24 : decode cX1_goThroughNights 24 = .ok (.getfield 62, 3) := by decide +kernel
theorem dX1_goThroughNights_27 : decode cX1_goThroughNights 27 = .ok (.bipush 14, 2) := by decide +kernel
theorem dX1_goThroughNights_29 : decode cX1_goThroughNights 29 = .ok (.invokestatic 101, 3) := by decide +kernel
theorem dX1_goThroughNights_32 : decode cX1_goThroughNights 32 = .ok (.bipush 13, 2) := by decide +kernel
theorem dX1_goThroughNights_34 : decode cX1_goThroughNights 34 = .ok (.if_icmp .ne 7, 3) := by decide +kernel
theorem dX1_goThroughNights_37 : decode cX1_goThroughNights 37 = .ok (.aload_n 0, 1) := by decide +kernel
theorem dX1_goThroughNights_38 : decode cX1_goThroughNights 38 = .ok (.invokevirtual 160, 3) := by decide +kernel
theorem dX1_goThroughNights_41 : decode cX1_goThroughNights 41 = .ok (.aload_n 0, 1) := by decide +kernel
theorem dX1_goThroughNights_42 : decode cX1_goThroughNights 42 = .ok (.dup, 1) := by decide +kernel
theorem dX1_goThroughNights_43 : decode cX1_goThroughNights 43 = .ok (.getfield 62, 3) := by decide +kernel
theorem dX1_goThroughNights_46 : decode cX1_goThroughNights 46 = .ok (.iconst 1, 1) := by decide +kernel
theorem dX1_goThroughNights_47 : decode cX1_goThroughNights 47 = .ok (.iadd, 1) := by decide +kernel
theorem dX1_goThroughNights_48 : decode cX1_goThroughNights 48 = .ok (.putfield 62, 3) := by decide +kernel
theorem dX1_goThroughNights_51 : decode cX1_goThroughNights 51 = .ok (.iinc 2 1, 3) := by decide +kernel
theorem dX1_goThroughNights_54 : decode cX1_goThroughNights 54 = .ok (.goto (-52), 3) := by decide +kernel
theorem dX1_goThroughNights_57 : decode cX1_goThroughNights 57 = .ok (.return_, 1) := by decide +kernel
set_option maxRecDepth 20000 in
theorem ggX1_catchEels_X1_run : GoodIn wsX1_catchEels wsX1_run := goodIn_r _ [6, 7, 8, 9, 10, 11, 12, 13, 14, 5, 15, 16, 17, 18, 19, 20, 49, 50, 51, 52, 53, 54, 55, 56, 57, 58] (by decide +kernel) (by decide +kernel)
set_option maxRecDepth 20000 in
theorem gX1_catchEels_X1_run : GoodIn wsX1_catchEels (wsV RX1 111 RX1 yX1_run wsX1_run) := goodIn_app (goodIn_of _ (by decide +kernel)) ggX1_catchEels_X1_run
set_option maxRecDepth 20000 in
theorem ggX1_catchEels_X1_inOrder : GoodIn wsX1_catchEels wsX1_inOrder := goodIn_r _ [24, 25, 49, 50, 51, 52, 53, 54, 55, 56, 57, 58] (by decide +kernel) (by decide +kernel)
set_option maxRecDepth 20000 in
theorem gX1_catchEels_X1_inOrder : GoodIn wsX1_catchEels (wsV RX1 36 RX1 yX1_inOrder wsX1_inOrder) := goodIn_app (goodIn_of _ (by decide +kernel)) ggX1_catchEels_X1_inOrder
set_option maxRecDepth 20000 in
theorem ggX1_catchEels_X1_weirAt : GoodIn wsX1_catchEels wsX1_weirAt := goodIn_r _ [29, 1, 30, 49, 50, 51, 52, 53, 54, 55, 56, 57, 58] (by decide +kernel) (by decide +kernel)
set_option maxRecDepth 20000 in
theorem gX1_catchEels_X1_weirAt : GoodIn wsX1_catchEels (wsV RX1 43 RX1 yX1_weirAt wsX1_weirAt) := goodIn_app (goodIn_of _ (by decide +kernel)) ggX1_catchEels_X1_weirAt
set_option maxRecDepth 20000 in
theorem ggX1_catchEels_X2_isFishing : GoodIn wsX1_catchEels wsX2_isFishing := goodIn_r _ [35, 36, 37, 59, 60, 61, 62, 63, 64, 65, 66] (by decide +kernel) (by decide +kernel)
set_option maxRecDepth 20000 in
theorem gX1_catchEels_X2_isFishing : GoodIn wsX1_catchEels (wsV RX1 163 RX2 yX2_isFishing wsX2_isFishing) := goodIn_app (goodIn_of _ (by decide +kernel)) ggX1_catchEels_X2_isFishing
set_option maxRecDepth 20000 in
theorem ggX1_catchEels_X2_catchOf : GoodIn wsX1_catchEels wsX2_catchOf := goodIn_r _ [41, 42, 43, 44, 45, 46, 47, 48, 59, 60, 61, 62, 63, 64, 65, 66] (by decide +kernel) (by decide +kernel)
set_option maxRecDepth 20000 in
theorem gX1_catchEels_X2_catchOf : GoodIn wsX1_catchEels (wsV RX1 166 RX2 yX2_catchOf wsX2_catchOf) := goodIn_app (goodIn_of _ (by decide +kernel)) ggX1_catchEels_X2_catchOf
theorem dX1_catchEels_0 : decode cX1_catchEels 0 = .ok (.aload_n 0, 1) := by decide +kernel
theorem dX1_catchEels_1 : decode cX1_catchEels 1 = .ok (.invokevirtual 111, 3) := by decide +kernel
theorem dX1_catchEels_4 : decode cX1_catchEels 4 = .ok (.istore_n 1, 1) := by decide +kernel
theorem dX1_catchEels_5 : decode cX1_catchEels 5 = .ok (.iconst 0, 1) := by decide +kernel
theorem dX1_catchEels_6 : decode cX1_catchEels 6 = .ok (.istore_n 2, 1) := by decide +kernel
theorem dX1_catchEels_7 : decode cX1_catchEels 7 = .ok (.iload_n 2, 1) := by decide +kernel
theorem dX1_catchEels_8 : decode cX1_catchEels 8 = .ok (.aload_n 0, 1) := by decide +kernel
theorem dX1_catchEels_9 : decode cX1_catchEels 9 = .ok (.getfield 39, 3) := by decide +kernel
theorem dX1_catchEels_12 : decode cX1_catchEels 12 = .ok (.if_icmp .ge 38, 3) := by decide +kernel
theorem dX1_catchEels_15 : decode cX1_catchEels 15 = .ok (.aload_n 0, 1) := by decide +kernel
theorem dX1_catchEels_16 : decode cX1_catchEels 16 = .ok (.aload_n 0, 1) := by decide +kernel
theorem dX1_catchEels_17 : decode cX1_catchEels 17 = .ok (.iload_n 2, 1) := by decide +kernel
theorem dX1_catchEels_18 : decode cX1_catchEels 18 = .ok (.invokevirtual 36, 3) := by decide +kernel
theorem dX1_catchEels_21 : decode cX1_catchEels 21 = .ok (.invokevirtual 43, 3) := by decide +kernel
theorem dX1_catchEels_24 : decode cX1_catchEels 24 = .ok (.astore_n 3, 1) := by decide +kernel
theorem dX1_catchEels_25 : decode cX1_catchEels 25 = .ok (.aload_n 3, 1) := by decide +kernel
theorem dX1_catchEels_26 : decode cX1_catchEels 26 = .ok (.ifnull 18, 3) := by decide +kernel
theorem dX1_catchEels_29 : decode cX1_catchEels 29 = .ok (.aload_n 3, 1) := by decide +kernel
theorem dX1_catchEels_30 : decode cX1_catchEels 30 = .ok (.invokevirtual 163, 3) := by decide +kernel
theorem dX1_catchEels_33 : decode cX1_catchEels 33 = .ok (.ifCond .eq 11, 3) := by decide +kernel
theorem dX1_catchEels_36 : decode cX1_catchEels 36 = .ok (.iload_n 1, 1) := by decide +kernel
theorem dX1_catchEels_37 : decode cX1_catchEels 37 = .ok (.aload_n 3, 1) := by decide +kernel
theorem dX1_catchEels_38 : decode cX1_catchEels 38 = .ok (.iload_n 1, 1) := by decide +kernel
theorem dX1_catchEels_39 : decode cX1_catchEels 39 = .ok (.invokevirtual 166, 3) := by decide +kernel
theorem dX1_catchEels_42 : decode cX1_catchEels 42 = .ok (.isub, 1) := by decide +kernel
theorem dX1_catchEels_43 : decode cX1_catchEels 43 = .ok (.istore_n 1, 1) := by decide +kernel
theorem dX1_catchEels_44 : decode cX1_catchEels 44 = .ok (.iinc 2 1, 3) := by decide +kernel
theorem dX1_catchEels_47 : decode cX1_catchEels 47 = .ok (.goto (-40), 3) := by decide +kernel
theorem dX1_catchEels_50 : decode cX1_catchEels 50 = .ok (.return_, 1) := by decide +kernel
set_option maxRecDepth 20000 in
theorem ggX1_moveBarges_X1_bargeAt : GoodIn wsX1_moveBarges wsX1_bargeAt := goodIn_r _ [7, 1, 8, 60, 61, 62, 63, 64, 65, 66, 67, 68, 69] (by decide +kernel) (by decide +kernel)
set_option maxRecDepth 20000 in
theorem gX1_moveBarges_X1_bargeAt : GoodIn wsX1_moveBarges (wsV RX1 54 RX1 yX1_bargeAt wsX1_bargeAt) := goodIn_app (goodIn_of _ (by decide +kernel)) ggX1_moveBarges_X1_bargeAt
set_option maxRecDepth 20000 in
theorem ggX1_moveBarges_X1_nextInWay : GoodIn wsX1_moveBarges wsX1_nextInWay := goodIn_r _ [12, 13, 2, 14, 15, 16, 17, 18, 6, 19, 20, 21, 22, 23, 24, 25, 26, 27, 28, 29, 30, 31, 32, 60, 61, 62, 63, 64, 65, 66, 67, 68, 69, 70, 71, 72, 73, 74, 75, 76, 77, 78, 79, 80, 81] (by decide +kernel) (by decide +kernel)
set_option maxRecDepth 20000 in
theorem gX1_moveBarges_X1_nextInWay : GoodIn wsX1_moveBarges (wsV RX1 127 RX1 yX1_nextInWay wsX1_nextInWay) := goodIn_app (goodIn_of _ (by decide +kernel)) ggX1_moveBarges_X1_nextInWay
set_option maxRecDepth 20000 in
theorem ggX1_moveBarges_X1_weirAt : GoodIn wsX1_moveBarges wsX1_weirAt := goodIn_r _ [19, 13, 20, 60, 61, 62, 63, 64, 65, 66, 67, 68, 69] (by decide +kernel) (by decide +kernel)
set_option maxRecDepth 20000 in
theorem gX1_moveBarges_X1_weirAt : GoodIn wsX1_moveBarges (wsV RX1 43 RX1 yX1_weirAt wsX1_weirAt) := goodIn_app (goodIn_of _ (by decide +kernel)) ggX1_moveBarges_X1_weirAt
set_option maxRecDepth 20000 in
theorem ggX1_moveBarges_X0_goOn : GoodIn wsX1_moveBarges wsX0_goOn := goodIn_r _ [37, 38, 39, 40, 41, 42, 78, 79, 80, 81] (by decide +kernel) (by decide +kernel)
set_option maxRecDepth 20000 in
theorem gX1_moveBarges_X0_goOn : GoodIn wsX1_moveBarges (wsV RX1 169 RX0 yX0_goOn wsX0_goOn) := goodIn_app (goodIn_of _ (by decide +kernel)) ggX1_moveBarges_X0_goOn
set_option maxRecDepth 20000 in
theorem ggX1_moveBarges_X1_breakThrough : GoodIn wsX1_moveBarges wsX1_breakThrough := goodIn_r _ [46, 13, 2, 14, 15, 47, 48, 16, 17, 18, 6, 19, 20, 21, 22, 23, 24, 25, 26, 27, 28, 29, 30, 31, 32, 49, 50, 51, 52, 53, 54, 40, 41, 42, 55, 56, 57, 58, 59, 60, 61, 62, 63, 64, 65, 66, 67, 68, 69, 70, 71, 72, 73, 74, 75, 76, 77, 78, 79, 80, 81] (by decide +kernel) (by decide +kernel)
set_option maxRecDepth 20000 in
theorem gX1_moveBarges_X1_breakThrough : GoodIn wsX1_moveBarges (wsV RX1 173 RX1 yX1_breakThrough wsX1_breakThrough) := goodIn_app (goodIn_of _ (by decide +kernel)) ggX1_moveBarges_X1_breakThrough
theorem dX1_moveBarges_0 : decode cX1_moveBarges 0 = .ok (.iconst 0, 1) := by decide +kernel
theorem dX1_moveBarges_1 : decode cX1_moveBarges 1 = .ok (.istore_n 1, 1) := by decide +kernel
theorem dX1_moveBarges_2 : decode cX1_moveBarges 2 = .ok (.iload_n 1, 1) := by decide +kernel
theorem dX1_moveBarges_3 : decode cX1_moveBarges 3 = .ok (.aload_n 0, 1) := by decide +kernel
theorem dX1_moveBarges_4 : decode cX1_moveBarges 4 = .ok (.getfield 51, 3) := by decide +kernel
theorem dX1_moveBarges_7 : decode cX1_moveBarges 7 = .ok (.if_icmp .ge 51, 3) := by decide +kernel
theorem dX1_moveBarges_10 : decode cX1_moveBarges 10 = .ok (.aload_n 0, 1) := by decide +kernel
theorem dX1_moveBarges_11 : decode cX1_moveBarges 11 = .ok (.iload_n 1, 1) := by decide +kernel
theorem dX1_moveBarges_12 : decode cX1_moveBarges 12 = .ok (.invokevirtual 54, 3) := by decide +kernel
theorem dX1_moveBarges_15 : decode cX1_moveBarges 15 = .ok (.astore_n 2, 1) := by decide +kernel
theorem dX1_moveBarges_16 : decode cX1_moveBarges 16 = .ok (.aload_n 2, 1) := by decide +kernel
theorem dX1_moveBarges_17 : decode cX1_moveBarges 17 = .ok (.ifnull 35, 3) := by decide +kernel
theorem dX1_moveBarges_20 : decode cX1_moveBarges 20 = .ok (.aload_n 0, 1) := by decide +kernel
theorem dX1_moveBarges_21 : decode cX1_moveBarges 21 = .ok (.aload_n 0, 1) := by decide +kernel
theorem dX1_moveBarges_22 : decode cX1_moveBarges 22 = .ok (.aload_n 2, 1) := by decide +kernel
theorem dX1_moveBarges_23 : decode cX1_moveBarges 23 = .ok (.invokevirtual 127, 3) := by decide +kernel
theorem dX1_moveBarges_26 : decode cX1_moveBarges 26 = .ok (.invokevirtual 43, 3) := by decide +kernel
theorem dX1_moveBarges_29 : decode cX1_moveBarges 29 = .ok (.astore_n 3, 1) := by decide +kernel
theorem dX1_moveBarges_30 : decode cX1_moveBarges 30 = .ok (.aload_n 2, 1) := by decide +kernel
theorem dX1_moveBarges_31 : decode cX1_moveBarges 31 = .ok (.aload_n 3, 1) := by decide +kernel
theorem dX1_moveBarges_32 : decode cX1_moveBarges 32 = .ok (.ifnonnull 8, 3) := by decide +kernel
theorem dX1_moveBarges_35 : decode cX1_moveBarges 35 = .ok (.bipush 39, 2) := by decide +kernel
theorem dX1_moveBarges_37 : decode cX1_moveBarges 37 = .ok (.goto 7, 3) := by decide +kernel
theorem dX1_moveBarges_40 : decode cX1_moveBarges 40 = .ok (.aload_n 3, 1) := by decide +kernel
theorem dX1_moveBarges_41 : decode cX1_moveBarges 41 = .ok (.getfield 93, 3) := by decide +kernel
theorem dX1_moveBarges_44 : decode cX1_moveBarges 44 = .ok (.invokevirtual 169, 3) := by decide +kernel
theorem dX1_moveBarges_47 : decode cX1_moveBarges 47 = .ok (.aload_n 0, 1) := by decide +kernel
theorem dX1_moveBarges_48 : decode cX1_moveBarges 48 = .ok (.aload_n 2, 1) := by decide +kernel
theorem dX1_moveBarges_49 : decode cX1_moveBarges 49 = .ok (.invokevirtual 173, 3) := by decide +kernel
theorem dX1_moveBarges_52 : decode cX1_moveBarges 52 = .ok (.iinc 1 1, 3) := by decide +kernel
theorem dX1_moveBarges_55 : decode cX1_moveBarges 55 = .ok (.goto (-53), 3) := by decide +kernel
theorem dX1_moveBarges_58 : decode cX1_moveBarges 58 = .ok (.return_, 1) := by decide +kernel
set_option maxRecDepth 20000 in
theorem ggX1_breakThrough_X1_weirAt : GoodIn wsX1_breakThrough wsX1_weirAt := goodIn_r _ [11, 1, 12, 39, 40, 41, 42, 43, 44, 45, 46, 47, 48] (by decide +kernel) (by decide +kernel)
set_option maxRecDepth 20000 in
theorem gX1_breakThrough_X1_weirAt : GoodIn wsX1_breakThrough (wsV RX1 43 RX1 yX1_weirAt wsX1_weirAt) := goodIn_app (goodIn_of _ (by decide +kernel)) ggX1_breakThrough_X1_weirAt
set_option maxRecDepth 20000 in
theorem ggX1_breakThrough_X2_isInWay : GoodIn wsX1_breakThrough wsX2_isInWay := goodIn_r _ [17, 18, 19, 20, 21, 16, 22, 23, 24, 49, 50, 51, 52, 53, 54, 55, 56] (by decide +kernel) (by decide +kernel)
set_option maxRecDepth 20000 in
theorem gX1_breakThrough_X2_isInWay : GoodIn wsX1_breakThrough (wsV RX1 141 RX2 yX2_isInWay wsX2_isInWay) := goodIn_app (goodIn_of _ (by decide +kernel)) ggX1_breakThrough_X2_isInWay
set_option maxRecDepth 20000 in
theorem ggX1_breakThrough_X2_breakFor : GoodIn wsX1_breakThrough wsX2_breakFor := goodIn_r _ [28, 18, 29, 30, 31, 32, 33, 34, 35, 36, 16, 37, 38, 49, 50, 51, 52, 53, 54, 55, 56] (by decide +kernel) (by decide +kernel)
set_option maxRecDepth 20000 in
theorem gX1_breakThrough_X2_breakFor : GoodIn wsX1_breakThrough (wsV RX1 176 RX2 yX2_breakFor wsX2_breakFor) := goodIn_app (goodIn_of _ (by decide +kernel)) ggX1_breakThrough_X2_breakFor
theorem dX1_breakThrough_0 : decode cX1_breakThrough 0 = .ok (.iconst 0, 1) := by decide +kernel
theorem dX1_breakThrough_1 : decode cX1_breakThrough 1 = .ok (.istore_n 2, 1) := by decide +kernel
theorem dX1_breakThrough_2 : decode cX1_breakThrough 2 = .ok (.iload_n 2, 1) := by decide +kernel
theorem dX1_breakThrough_3 : decode cX1_breakThrough 3 = .ok (.aload_n 0, 1) := by decide +kernel
theorem dX1_breakThrough_4 : decode cX1_breakThrough 4 = .ok (.getfield 39, 3) := by decide +kernel
theorem dX1_breakThrough_7 : decode cX1_breakThrough 7 = .ok (.if_icmp .ge 68, 3) := by decide +kernel
theorem dX1_breakThrough_10 : decode cX1_breakThrough 10 = .ok (.aload_n 0, 1) := by decide +kernel
theorem dX1_breakThrough_11 : decode cX1_breakThrough 11 = .ok (.iload_n 2, 1) := by decide +kernel
theorem dX1_breakThrough_12 : decode cX1_breakThrough 12 = .ok (.invokevirtual 43, 3) := by decide +kernel
theorem dX1_breakThrough_15 : decode cX1_breakThrough 15 = .ok (.astore_n 3, 1) := by decide +kernel
theorem dX1_breakThrough_16 : decode cX1_breakThrough 16 = .ok (.aload_n 3, 1) := by decide +kernel
theorem dX1_breakThrough_17 : decode cX1_breakThrough 17 = .ok (.ifnull 52, 3) := by decide +kernel
theorem dX1_breakThrough_20 : decode cX1_breakThrough 20 = .ok (.aload_n 3, 1) := by decide +kernel
theorem dX1_breakThrough_21 : decode cX1_breakThrough 21 = .ok (.getfield 93, 3) := by decide +kernel
theorem dX1_breakThrough_24 : decode cX1_breakThrough 24 = .ok (.aload_n 1, 1) := by decide +kernel
theorem dX1_breakThrough_25 : decode cX1_breakThrough 25 = .ok (.getfield 123, 3) := by decide +kernel
theorem dX1_breakThrough_28 : decode cX1_breakThrough 28 = .ok (.if_icmp .ne 41, 3) := by decide +kernel
theorem dX1_breakThrough_31 : decode cX1_breakThrough 31 = .ok (.aload_n 3, 1) := by decide +kernel
theorem dX1_breakThrough_32 : decode cX1_breakThrough 32 = .ok (.aload_n 1, 1) := by decide +kernel
theorem dX1_breakThrough_33 : decode cX1_breakThrough 33 = .ok (.getfield 120, 3) := by decide +kernel
theorem dX1_breakThrough_36 : decode cX1_breakThrough 36 = .ok (.invokevirtual 141, 3) := by decide +kernel
theorem dX1_breakThrough_39 : decode cX1_breakThrough 39 = .ok (.ifCond .eq 30, 3) := by decide +kernel
theorem dX1_breakThrough_42 : decode cX1_breakThrough 42 = .ok (.aload_n 0, 1) := by decide +kernel
theorem dX1_breakThrough_43 : decode cX1_breakThrough 43 = .ok (.dup, 1) := by decide +kernel
theorem dX1_breakThrough_44 : decode cX1_breakThrough 44 = .ok (.getfield 68, 3) := by decide +kernel
theorem dX1_breakThrough_47 : decode cX1_breakThrough 47 = .ok (.aload_n 3, 1) := by decide +kernel
theorem dX1_breakThrough_48 : decode cX1_breakThrough 48 = .ok (.aload_n 1, 1) := by decide +kernel
theorem dX1_breakThrough_49 : decode cX1_breakThrough 49 = .ok (.getfield 120, 3) := by decide +kernel
theorem dX1_breakThrough_52 : decode cX1_breakThrough 52 = .ok (.invokevirtual 176, 3) := by decide +kernel
theorem dX1_breakThrough_55 : decode cX1_breakThrough 55 = .ok (.iadd, 1) := by decide +kernel
theorem dX1_breakThrough_56 : decode cX1_breakThrough 56 = .ok (.putfield 68, 3) := by decide +kernel
theorem dX1_breakThrough_59 : decode cX1_breakThrough 59 = .ok (.aload_n 1, 1) := by decide +kernel
theorem dX1_breakThrough_60 : decode cX1_breakThrough 60 = .ok (.dup, 1) := by decide +kernel
theorem dX1_breakThrough_61 : decode cX1_breakThrough 61 = .ok (.getfield 124, 3) := by decide +kernel
theorem dX1_breakThrough_64 : decode cX1_breakThrough 64 = .ok (.iconst 1, 1) := by decide +kernel
theorem dX1_breakThrough_65 : decode cX1_breakThrough 65 = .ok (.iadd, 1) := by decide +kernel
theorem dX1_breakThrough_66 : decode cX1_breakThrough 66 = .ok (.putfield 124, 3) := by decide +kernel
theorem dX1_breakThrough_69 : decode cX1_breakThrough 69 = .ok (.iinc 2 1, 3) := by decide +kernel
theorem dX1_breakThrough_72 : decode cX1_breakThrough 72 = .ok (.goto (-70), 3) := by decide +kernel
theorem dX1_breakThrough_75 : decode cX1_breakThrough 75 = .ok (.return_, 1) := by decide +kernel
set_option maxRecDepth 20000 in
theorem ggX1_leaveOutArrived_X1_bargeAt : GoodIn wsX1_leaveOutArrived wsX1_bargeAt := goodIn_r _ [8, 1, 9, 22, 23, 24, 25, 26, 27, 28, 29, 30, 31] (by decide +kernel) (by decide +kernel)
set_option maxRecDepth 20000 in
theorem gX1_leaveOutArrived_X1_bargeAt : GoodIn wsX1_leaveOutArrived (wsV RX1 54 RX1 yX1_bargeAt wsX1_bargeAt) := goodIn_app (goodIn_of _ (by decide +kernel)) ggX1_leaveOutArrived_X1_bargeAt
set_option maxRecDepth 20000 in
theorem ggX1_leaveOutArrived_X1_copyBarge : GoodIn wsX1_leaveOutArrived wsX1_copyBarge := goodIn_r _ [12, 13, 14, 15, 16, 17, 18, 19, 20, 21, 32, 33, 34, 35] (by decide +kernel) (by decide +kernel)
set_option maxRecDepth 20000 in
theorem gX1_leaveOutArrived_X1_copyBarge : GoodIn wsX1_leaveOutArrived (va_wsS RX1 58 yX1_copyBarge wsX1_copyBarge) := goodIn_app (goodIn_of _ (by decide +kernel)) ggX1_leaveOutArrived_X1_copyBarge
theorem dX1_leaveOutArrived_0 : decode cX1_leaveOutArrived 0 = .ok (.iconst 0, 1) := by decide +kernel
theorem dX1_leaveOutArrived_1 : decode cX1_leaveOutArrived 1 = .ok (.istore_n 1, 1) := by decide +kernel
theorem dX1_leaveOutArrived_2 : decode cX1_leaveOutArrived 2 = .ok (.iconst 0, 1) := by decide +kernel
theorem dX1_leaveOutArrived_3 : decode cX1_leaveOutArrived 3 = .ok (.istore_n 2, 1) := by decide +kernel
theorem dX1_leaveOutArrived_4 : decode cX1_leaveOutArrived 4 = .ok (.iload_n 2, 1) := by decide +kernel
theorem dX1_leaveOutArrived_5 : decode cX1_leaveOutArrived 5 = .ok (.aload_n 0, 1) := by decide +kernel
theorem dX1_leaveOutArrived_6 : decode cX1_leaveOutArrived 6 = .ok (.getfield 51, 3) := by decide +kernel
theorem dX1_leaveOutArrived_9 : decode cX1_leaveOutArrived 9 = .ok (.if_icmp .ge 40, 3) := by decide +kernel
theorem dX1_leaveOutArrived_12 : decode cX1_leaveOutArrived 12 = .ok (.aload_n 0, 1) := by decide +kernel
theorem dX1_leaveOutArrived_13 : decode cX1_leaveOutArrived 13 = .ok (.iload_n 2, 1) := by decide +kernel
theorem dX1_leaveOutArrived_14 : decode cX1_leaveOutArrived 14 = .ok (.invokevirtual 54, 3) := by decide +kernel
theorem dX1_leaveOutArrived_17 : decode cX1_leaveOutArrived 17 = .ok (.astore_n 3, 1) := by decide +kernel
theorem dX1_leaveOutArrived_18 : decode cX1_leaveOutArrived 18 = .ok (.aload_n 3, 1) := by decide +kernel
theorem dX1_leaveOutArrived_19 : decode cX1_leaveOutArrived 19 = .ok (.ifnull 24, 3) := by decide +kernel
theorem dX1_leaveOutArrived_22 : decode cX1_leaveOutArrived 22 = .ok (.aload_n 3, 1) := by decide +kernel
theorem dX1_leaveOutArrived_23 : decode cX1_leaveOutArrived 23 = .ok (.getfield 123, 3) := by decide +kernel
theorem dX1_leaveOutArrived_26 : decode cX1_leaveOutArrived 26 = .ok (.bipush 39, 2) := by decide +kernel
theorem dX1_leaveOutArrived_28 : decode cX1_leaveOutArrived 28 = .ok (.if_icmp .ge 15, 3) := by decide +kernel
theorem dX1_leaveOutArrived_31 : decode cX1_leaveOutArrived 31 = .ok (.aload_n 0, 1) := by decide +kernel
theorem dX1_leaveOutArrived_32 : decode cX1_leaveOutArrived 32 = .ok (.iload_n 1, 1) := by decide +kernel
theorem dX1_leaveOutArrived_33 : decode cX1_leaveOutArrived 33 = .ok (.invokevirtual 54, 3) := by decide +kernel
theorem dX1_leaveOutArrived_36 : decode cX1_leaveOutArrived 36 = .ok (.aload_n 3, 1) := by decide +kernel
theorem dX1_leaveOutArrived_37 : decode cX1_leaveOutArrived 37 = .ok (.invokestatic 58, 3) := by decide +kernel
theorem dX1_leaveOutArrived_40 : decode cX1_leaveOutArrived 40 = .ok (.iinc 1 1, 3) := by decide +kernel
theorem dX1_leaveOutArrived_43 : decode cX1_leaveOutArrived 43 = .ok (.iinc 2 1, 3) := by decide +kernel
theorem dX1_leaveOutArrived_46 : decode cX1_leaveOutArrived 46 = .ok (.goto (-42), 3) := by decide +kernel
theorem dX1_leaveOutArrived_49 : decode cX1_leaveOutArrived 49 = .ok (.aload_n 0, 1) := by decide +kernel
theorem dX1_leaveOutArrived_50 : decode cX1_leaveOutArrived 50 = .ok (.dup, 1) := by decide +kernel
theorem dX1_leaveOutArrived_51 : decode cX1_leaveOutArrived 51 = .ok (.getfield 65, 3) := by decide +kernel
theorem dX1_leaveOutArrived_54 : decode cX1_leaveOutArrived 54 = .ok (.aload_n 0, 1) := by decide +kernel
theorem dX1_leaveOutArrived_55 : decode cX1_leaveOutArrived 55 = .ok (.getfield 51, 3) := by decide +kernel
theorem dX1_leaveOutArrived_58 : decode cX1_leaveOutArrived 58 = .ok (.iload_n 1, 1) := by decide +kernel
theorem dX1_leaveOutArrived_59 : decode cX1_leaveOutArrived 59 = .ok (.isub, 1) := by decide +kernel
theorem dX1_leaveOutArrived_60 : decode cX1_leaveOutArrived 60 = .ok (.iadd, 1) := by decide +kernel
theorem dX1_leaveOutArrived_61 : decode cX1_leaveOutArrived 61 = .ok (.putfield 65, 3) := by decide +kernel
theorem dX1_leaveOutArrived_64 : decode cX1_leaveOutArrived 64 = .ok (.aload_n 0, 1) := by decide +kernel
theorem dX1_leaveOutArrived_65 : decode cX1_leaveOutArrived 65 = .ok (.iload_n 1, 1) := by decide +kernel
theorem dX1_leaveOutArrived_66 : decode cX1_leaveOutArrived 66 = .ok (.putfield 51, 3) := by decide +kernel
theorem dX1_leaveOutArrived_69 : decode cX1_leaveOutArrived 69 = .ok (.return_, 1) := by decide +kernel
set_option maxRecDepth 20000 in
theorem ggX1_rotWattle_X1_moon : GoodIn wsX1_rotWattle wsX1_moon := goodIn_r _ [6, 7, 8, 9, 10, 11, 28, 29, 30, 31, 32, 33, 34, 35, 36, 37] (by decide +kernel) (by decide +kernel)
set_option maxRecDepth 20000 in
theorem gX1_rotWattle_X1_moon : GoodIn wsX1_rotWattle (wsV RX1 107 RX1 yX1_moon wsX1_moon) := goodIn_app (goodIn_of _ (by decide +kernel)) ggX1_rotWattle_X1_moon
set_option maxRecDepth 20000 in
theorem ggX1_rotWattle_X1_weirAt : GoodIn wsX1_rotWattle wsX1_weirAt := goodIn_r _ [15, 1, 16, 28, 29, 30, 31, 32, 33, 34, 35, 36, 37] (by decide +kernel) (by decide +kernel)
set_option maxRecDepth 20000 in
theorem gX1_rotWattle_X1_weirAt : GoodIn wsX1_rotWattle (wsV RX1 43 RX1 yX1_weirAt wsX1_weirAt) := goodIn_app (goodIn_of _ (by decide +kernel)) ggX1_rotWattle_X1_weirAt
set_option maxRecDepth 20000 in
theorem ggX1_rotWattle_X2_isHeld : GoodIn wsX1_rotWattle wsX2_isHeld := goodIn_r _ [21, 22, 38, 39, 40, 41, 42, 43, 44, 45] (by decide +kernel) (by decide +kernel)
set_option maxRecDepth 20000 in
theorem gX1_rotWattle_X2_isHeld : GoodIn wsX1_rotWattle (wsV RX1 131 RX2 yX2_isHeld wsX2_isHeld) := goodIn_app (goodIn_of _ (by decide +kernel)) ggX1_rotWattle_X2_isHeld
set_option maxRecDepth 20000 in
theorem ggX1_rotWattle_X2_loseWattle : GoodIn wsX1_rotWattle wsX2_loseWattle := goodIn_r _ [26, 27, 38, 39, 40, 41, 42, 43, 44, 45] (by decide +kernel) (by decide +kernel)
set_option maxRecDepth 20000 in
theorem gX1_rotWattle_X2_loseWattle : GoodIn wsX1_rotWattle (wsV RX1 179 RX2 yX2_loseWattle wsX2_loseWattle) := goodIn_app (goodIn_of _ (by decide +kernel)) ggX1_rotWattle_X2_loseWattle
theorem dX1_rotWattle_0 : decode cX1_rotWattle 0 = .ok (.aload_n 0, 1) := by decide +kernel
theorem dX1_rotWattle_1 : decode cX1_rotWattle 1 = .ok (.invokevirtual 107, 3) := by decide +kernel
theorem dX1_rotWattle_4 : decode cX1_rotWattle 4 = .ok (.iconst 1, 1) := by decide +kernel
theorem dX1_rotWattle_5 : decode cX1_rotWattle 5 = .ok (.if_icmp .ne 7, 3) := by decide +kernel
theorem dX1_rotWattle_8 : decode cX1_rotWattle 8 = .ok (.iconst 1, 1) := by decide +kernel
theorem dX1_rotWattle_9 : decode cX1_rotWattle 9 = .ok (.goto 4, 3) := by decide +kernel
theorem dX1_rotWattle_12 : decode cX1_rotWattle 12 = .ok (.iconst 3, 1) := by decide +kernel
theorem dX1_rotWattle_13 : decode cX1_rotWattle 13 = .ok (.istore_n 1, 1) := by decide +kernel
theorem dX1_rotWattle_14 : decode cX1_rotWattle 14 = .ok (.iconst 0, 1) := by decide +kernel
theorem dX1_rotWattle_15 : decode cX1_rotWattle 15 = .ok (.istore_n 2, 1) := by decide +kernel
theorem dX1_rotWattle_16 : decode cX1_rotWattle 16 = .ok (.iload_n 2, 1) := by decide +kernel
theorem dX1_rotWattle_17 : decode cX1_rotWattle 17 = .ok (.aload_n 0, 1) := by decide +kernel
theorem dX1_rotWattle_18 : decode cX1_rotWattle 18 = .ok (.getfield 39, 3) := by decide +kernel
theorem dX1_rotWattle_21 : decode cX1_rotWattle 21 = .ok (.if_icmp .ge 31, 3) := by decide +kernel
theorem dX1_rotWattle_24 : decode cX1_rotWattle 24 = .ok (.aload_n 0, 1) := by decide +kernel
theorem dX1_rotWattle_25 : decode cX1_rotWattle 25 = .ok (.iload_n 2, 1) := by decide +kernel
theorem dX1_rotWattle_26 : decode cX1_rotWattle 26 = .ok (.invokevirtual 43, 3) := by decide +kernel
theorem dX1_rotWattle_29 : decode cX1_rotWattle 29 = .ok (.astore_n 3, 1) := by decide +kernel
theorem dX1_rotWattle_30 : decode cX1_rotWattle 30 = .ok (.aload_n 3, 1) := by decide +kernel
theorem dX1_rotWattle_31 : decode cX1_rotWattle 31 = .ok (.ifnull 15, 3) := by decide +kernel
theorem dX1_rotWattle_34 : decode cX1_rotWattle 34 = .ok (.aload_n 3, 1) := by decide +kernel
theorem dX1_rotWattle_35 : decode cX1_rotWattle 35 = .ok (.invokevirtual 131, 3) := by decide +kernel
theorem dX1_rotWattle_38 : decode cX1_rotWattle 38 = .ok (.ifCond .eq 8, 3) := by decide +kernel
theorem dX1_rotWattle_41 : decode cX1_rotWattle 41 = .ok (.aload_n 3, 1) := by decide +kernel
theorem dX1_rotWattle_42 : decode cX1_rotWattle 42 = .ok (.iload_n 1, 1) := by decide +kernel
theorem dX1_rotWattle_43 : decode cX1_rotWattle 43 = .ok (.invokevirtual 179, 3) := by decide +kernel
theorem dX1_rotWattle_46 : decode cX1_rotWattle 46 = .ok (.iinc 2 1, 3) := by decide +kernel
theorem dX1_rotWattle_49 : decode cX1_rotWattle 49 = .ok (.goto (-33), 3) := by decide +kernel
theorem dX1_rotWattle_52 : decode cX1_rotWattle 52 = .ok (.return_, 1) := by decide +kernel
set_option maxRecDepth 20000 in
theorem ggX1_collectRents_X1_weirAt : GoodIn wsX1_collectRents wsX1_weirAt := goodIn_r _ [7, 1, 8, 22, 23, 24, 25, 26, 27, 28, 29, 30, 31] (by decide +kernel) (by decide +kernel)
set_option maxRecDepth 20000 in
theorem gX1_collectRents_X1_weirAt : GoodIn wsX1_collectRents (wsV RX1 43 RX1 yX1_weirAt wsX1_weirAt) := goodIn_app (goodIn_of _ (by decide +kernel)) ggX1_collectRents_X1_weirAt
set_option maxRecDepth 20000 in
theorem ggX1_collectRents_X2_isHeld : GoodIn wsX1_collectRents wsX2_isHeld := goodIn_r _ [13, 14, 32, 33, 34, 35, 36, 37, 38, 39] (by decide +kernel) (by decide +kernel)
set_option maxRecDepth 20000 in
theorem gX1_collectRents_X2_isHeld : GoodIn wsX1_collectRents (wsV RX1 131 RX2 yX2_isHeld wsX2_isHeld) := goodIn_app (goodIn_of _ (by decide +kernel)) ggX1_collectRents_X2_isHeld
set_option maxRecDepth 20000 in
theorem ggX1_collectRents_X2_payRent : GoodIn wsX1_collectRents wsX2_payRent := goodIn_r _ [18, 19, 20, 14, 21, 32, 33, 34, 35, 36, 37, 38, 39] (by decide +kernel) (by decide +kernel)
set_option maxRecDepth 20000 in
theorem gX1_collectRents_X2_payRent : GoodIn wsX1_collectRents (wsV RX1 182 RX2 yX2_payRent wsX2_payRent) := goodIn_app (goodIn_of _ (by decide +kernel)) ggX1_collectRents_X2_payRent
theorem dX1_collectRents_0 : decode cX1_collectRents 0 = .ok (.iconst 0, 1) := by decide +kernel
theorem dX1_collectRents_1 : decode cX1_collectRents 1 = .ok (.istore_n 1, 1) := by decide +kernel
theorem dX1_collectRents_2 : decode cX1_collectRents 2 = .ok (.iload_n 1, 1) := by decide +kernel
theorem dX1_collectRents_3 : decode cX1_collectRents 3 = .ok (.aload_n 0, 1) := by decide +kernel
theorem dX1_collectRents_4 : decode cX1_collectRents 4 = .ok (.getfield 39, 3) := by decide +kernel
theorem dX1_collectRents_7 : decode cX1_collectRents 7 = .ok (.if_icmp .ge 39, 3) := by decide +kernel
theorem dX1_collectRents_10 : decode cX1_collectRents 10 = .ok (.aload_n 0, 1) := by decide +kernel
theorem dX1_collectRents_11 : decode cX1_collectRents 11 = .ok (.iload_n 1, 1) := by decide +kernel
theorem dX1_collectRents_12 : decode cX1_collectRents 12 = .ok (.invokevirtual 43, 3) := by decide +kernel
theorem dX1_collectRents_15 : decode cX1_collectRents 15 = .ok (.astore_n 2, 1) := by decide +kernel
theorem dX1_collectRents_16 : decode cX1_collectRents 16 = .ok (.aload_n 2, 1) := by decide +kernel
theorem dX1_collectRents_17 : decode cX1_collectRents 17 = .ok (.ifnull 23, 3) := by decide +kernel
theorem dX1_collectRents_20 : decode cX1_collectRents 20 = .ok (.aload_n 2, 1) := by decide +kernel
theorem dX1_collectRents_21 : decode cX1_collectRents 21 = .ok (.invokevirtual 131, 3) := by decide +kernel
theorem dX1_collectRents_24 : decode cX1_collectRents 24 = .ok (.ifCond .eq 16, 3) := by decide +kernel
theorem dX1_collectRents_27 : decode cX1_collectRents 27 = .ok (.aload_n 0, 1) := by decide +kernel
theorem dX1_collectRents_28 : decode cX1_collectRents 28 = .ok (.dup, 1) := by decide +kernel
theorem dX1_collectRents_29 : decode cX1_collectRents 29 = .ok (.getfield 71, 3) := by decide +kernel
theorem dX1_collectRents_32 : decode cX1_collectRents 32 = .ok (.aload_n 2, 1) := by decide +kernel
theorem dX1_collectRents_33 : decode cX1_collectRents 33 = .ok (.invokevirtual 182, 3) := by decide +kernel
theorem dX1_collectRents_36 : decode cX1_collectRents 36 = .ok (.iadd, 1) := by decide +kernel
theorem dX1_collectRents_37 : decode cX1_collectRents 37 = .ok (.putfield 71, 3) := by decide +kernel
theorem dX1_collectRents_40 : decode cX1_collectRents 40 = .ok (.iinc 1 1, 3) := by decide +kernel
theorem dX1_collectRents_43 : decode cX1_collectRents 43 = .ok (.goto (-41), 3) := by decide +kernel
theorem dX1_collectRents_46 : decode cX1_collectRents 46 = .ok (.return_, 1) := by decide +kernel
theorem dX2_init_0 : decode cX2_init 0 = .ok (.aload_n 0, 1) := by decide +kernel
theorem dX2_init_1 : decode cX2_init 1 = .ok (.invokespecial 3, 3) := by decide +kernel
theorem dX2_init_4 : decode cX2_init 4 = .ok (.return_, 1) := by decide +kernel
theorem dX2_makeNew_0 : decode cX2_makeNew 0 = .ok (.aload_n 0, 1) := by decide +kernel
theorem dX2_makeNew_1 : decode cX2_makeNew 1 = .ok (.iload_n 1, 1) := by decide +kernel
theorem dX2_makeNew_2 : decode cX2_makeNew 2 = .ok (.putfield 9, 3) := by decide +kernel
theorem dX2_makeNew_5 : decode cX2_makeNew 5 = .ok (.aload_n 0, 1) := by decide +kernel
theorem dX2_makeNew_6 : decode cX2_makeNew 6 = .ok (.iload_n 2, 1) := by decide +kernel
theorem dX2_makeNew_7 : decode cX2_makeNew 7 = .ok (.putfield 15, 3) := by decide +kernel
theorem dX2_makeNew_10 : decode cX2_makeNew 10 = .ok (.aload_n 0, 1) := by decide +kernel
theorem dX2_makeNew_11 : decode cX2_makeNew 11 = .ok (.bipush 100, 2) := by decide +kernel
theorem dX2_makeNew_13 : decode cX2_makeNew 13 = .ok (.putfield 18, 3) := by decide +kernel
theorem dX2_makeNew_16 : decode cX2_makeNew 16 = .ok (.aload_n 0, 1) := by decide +kernel
theorem dX2_makeNew_17 : decode cX2_makeNew 17 = .ok (.iload_n 3, 1) := by decide +kernel
theorem dX2_makeNew_18 : decode cX2_makeNew 18 = .ok (.putfield 21, 3) := by decide +kernel
theorem dX2_makeNew_21 : decode cX2_makeNew 21 = .ok (.aload_n 0, 1) := by decide +kernel
theorem dX2_makeNew_22 : decode cX2_makeNew 22 = .ok (.bipush 20, 2) := by decide +kernel
theorem dX2_makeNew_24 : decode cX2_makeNew 24 = .ok (.putfield 24, 3) := by decide +kernel
theorem dX2_makeNew_27 : decode cX2_makeNew 27 = .ok (.aload_n 0, 1) := by decide +kernel
theorem dX2_makeNew_28 : decode cX2_makeNew 28 = .ok (.iconst 0, 1) := by decide +kernel
theorem dX2_makeNew_29 : decode cX2_makeNew 29 = .ok (.putfield 27, 3) := by decide +kernel
theorem dX2_makeNew_32 : decode cX2_makeNew 32 = .ok (.aload_n 0, 1) := by decide +kernel
theorem dX2_makeNew_33 : decode cX2_makeNew 33 = .ok (.iconst 0, 1) := by decide +kernel
theorem dX2_makeNew_34 : decode cX2_makeNew 34 = .ok (.putfield 30, 3) := by decide +kernel
theorem dX2_makeNew_37 : decode cX2_makeNew 37 = .ok (.aload_n 0, 1) := by decide +kernel
theorem dX2_makeNew_38 : decode cX2_makeNew 38 = .ok (.iconst 0, 1) := by decide +kernel
theorem dX2_makeNew_39 : decode cX2_makeNew 39 = .ok (.putfield 34, 3) := by decide +kernel
theorem dX2_makeNew_42 : decode cX2_makeNew 42 = .ok (.return_, 1) := by decide +kernel
theorem dX2_copyFrom_0 : decode cX2_copyFrom 0 = .ok (.aload_n 0, 1) := by decide +kernel
theorem dX2_copyFrom_1 : decode cX2_copyFrom 1 = .ok (.aload_n 1, 1) := by decide +kernel
theorem dX2_copyFrom_2 : decode cX2_copyFrom 2 = .ok (.getfield 9, 3) := by decide +kernel
theorem dX2_copyFrom_5 : decode cX2_copyFrom 5 = .ok (.putfield 9, 3) := by decide +kernel
theorem dX2_copyFrom_8 : decode cX2_copyFrom 8 = .ok (.aload_n 0, 1) := by decide +kernel
theorem dX2_copyFrom_9 : decode cX2_copyFrom 9 = .ok (.aload_n 1, 1) := by decide +kernel
theorem dX2_copyFrom_10 : decode cX2_copyFrom 10 = .ok (.getfield 15, 3) := by decide +kernel
theorem dX2_copyFrom_13 : decode cX2_copyFrom 13 = .ok (.putfield 15, 3) := by decide +kernel
theorem dX2_copyFrom_16 : decode cX2_copyFrom 16 = .ok (.aload_n 0, 1) := by decide +kernel
theorem dX2_copyFrom_17 : decode cX2_copyFrom 17 = .ok (.aload_n 1, 1) := by decide +kernel
theorem dX2_copyFrom_18 : decode cX2_copyFrom 18 = .ok (.getfield 18, 3) := by decide +kernel
theorem dX2_copyFrom_21 : decode cX2_copyFrom 21 = .ok (.putfield 18, 3) := by decide +kernel
theorem dX2_copyFrom_24 : decode cX2_copyFrom 24 = .ok (.aload_n 0, 1) := by decide +kernel
theorem dX2_copyFrom_25 : decode cX2_copyFrom 25 = .ok (.aload_n 1, 1) := by decide +kernel
theorem dX2_copyFrom_26 : decode cX2_copyFrom 26 = .ok (.getfield 21, 3) := by decide +kernel
theorem dX2_copyFrom_29 : decode cX2_copyFrom 29 = .ok (.putfield 21, 3) := by decide +kernel
theorem dX2_copyFrom_32 : decode cX2_copyFrom 32 = .ok (.aload_n 0, 1) := by decide +kernel
theorem dX2_copyFrom_33 : decode cX2_copyFrom 33 = .ok (.aload_n 1, 1) := by decide +kernel
theorem dX2_copyFrom_34 : decode cX2_copyFrom 34 = .ok (.getfield 24, 3) := by decide +kernel
theorem dX2_copyFrom_37 : decode cX2_copyFrom 37 = .ok (.putfield 24, 3) := by decide +kernel
theorem dX2_copyFrom_40 : decode cX2_copyFrom 40 = .ok (.aload_n 0, 1) := by decide +kernel
theorem dX2_copyFrom_41 : decode cX2_copyFrom 41 = .ok (.aload_n 1, 1) := by decide +kernel
theorem dX2_copyFrom_42 : decode cX2_copyFrom 42 = .ok (.getfield 27, 3) := by decide +kernel
theorem dX2_copyFrom_45 : decode cX2_copyFrom 45 = .ok (.putfield 27, 3) := by decide +kernel
theorem dX2_copyFrom_48 : decode cX2_copyFrom 48 = .ok (.aload_n 0, 1) := by decide +kernel
theorem dX2_copyFrom_49 : decode cX2_copyFrom 49 = .ok (.aload_n 1, 1) := by decide +kernel
theorem dX2_copyFrom_50 : decode cX2_copyFrom 50 = .ok (.getfield 30, 3) := by decide +kernel
theorem dX2_copyFrom_53 : decode cX2_copyFrom 53 = .ok (.putfield 30, 3) := by decide +kernel
theorem dX2_copyFrom_56 : decode cX2_copyFrom 56 = .ok (.aload_n 0, 1) := by decide +kernel
theorem dX2_copyFrom_57 : decode cX2_copyFrom 57 = .ok (.aload_n 1, 1) := by decide +kernel
theorem dX2_copyFrom_58 : decode cX2_copyFrom 58 = .ok (.getfield 34, 3) := by decide +kernel
theorem dX2_copyFrom_61 : decode cX2_copyFrom 61 = .ok (.putfield 34, 3) := by decide +kernel
theorem dX2_copyFrom_64 : decode cX2_copyFrom 64 = .ok (.return_, 1) := by decide +kernel
theorem dX2_isHeld_0 : decode cX2_isHeld 0 = .ok (.aload_n 0, 1) := by decide +kernel
theorem dX2_isHeld_1 : decode cX2_isHeld 1 = .ok (.getfield 34, 3) := by decide +kernel
theorem dX2_isHeld_4 : decode cX2_isHeld 4 = .ok (.iconst 3, 1) := by decide +kernel
theorem dX2_isHeld_5 : decode cX2_isHeld 5 = .ok (.if_icmp .ge 7, 3) := by decide +kernel
theorem dX2_isHeld_8 : decode cX2_isHeld 8 = .ok (.iconst 1, 1) := by decide +kernel
theorem dX2_isHeld_9 : decode cX2_isHeld 9 = .ok (.goto 4, 3) := by decide +kernel
theorem dX2_isHeld_12 : decode cX2_isHeld 12 = .ok (.iconst 0, 1) := by decide +kernel
theorem dX2_isHeld_13 : decode cX2_isHeld 13 = .ok (.ireturn, 1) := by decide +kernel
theorem dX2_isFishing_0 : decode cX2_isFishing 0 = .ok (.aload_n 0, 1) := by decide +kernel
theorem dX2_isFishing_1 : decode cX2_isFishing 1 = .ok (.getfield 34, 3) := by decide +kernel
theorem dX2_isFishing_4 : decode cX2_isFishing 4 = .ok (.iconst 3, 1) := by decide +kernel
theorem dX2_isFishing_5 : decode cX2_isFishing 5 = .ok (.if_icmp .ge 14, 3) := by decide +kernel
theorem dX2_isFishing_8 : decode cX2_isFishing 8 = .ok (.aload_n 0, 1) := by decide +kernel
theorem dX2_isFishing_9 : decode cX2_isFishing 9 = .ok (.getfield 30, 3) := by decide +kernel
theorem dX2_isFishing_12 : decode cX2_isFishing 12 = .ok (.ifCond .ne 7, 3) := by decide +kernel
theorem dX2_isFishing_15 : decode cX2_isFishing 15 = .ok (.iconst 1, 1) := by decide +kernel
theorem dX2_isFishing_16 : decode cX2_isFishing 16 = .ok (.goto 4, 3) := by decide +kernel
theorem dX2_isFishing_19 : decode cX2_isFishing 19 = .ok (.iconst 0, 1) := by decide +kernel
theorem dX2_isFishing_20 : decode cX2_isFishing 20 = .ok (.ireturn, 1) := by decide +kernel
set_option maxRecDepth 20000 in
theorem ggX2_isInWay_X2_isFishing : GoodIn wsX2_isInWay wsX2_isFishing := goodIn_r _ [6, 7, 8, 9, 10, 11, 12, 13, 14, 15, 16] (by decide +kernel) (by decide +kernel)
set_option maxRecDepth 20000 in
theorem gX2_isInWay_X2_isFishing : GoodIn wsX2_isInWay (wsV RX2 37 RX2 yX2_isFishing wsX2_isFishing) := goodIn_app (goodIn_of _ (by decide +kernel)) ggX2_isInWay_X2_isFishing
theorem dX2_isInWay_0 : decode cX2_isInWay 0 = .ok (.aload_n 0, 1) := by decide +kernel
theorem dX2_isInWay_1 : decode cX2_isInWay 1 = .ok (.invokevirtual 37, 3) := by decide +kernel
theorem dX2_isInWay_4 : decode cX2_isInWay 4 = .ok (.ifCond .eq 18, 3) := by decide +kernel
theorem dX2_isInWay_7 : decode cX2_isInWay 7 = .ok (.aload_n 0, 1) := by decide +kernel
theorem dX2_isInWay_8 : decode cX2_isInWay 8 = .ok (.getfield 15, 3) := by decide +kernel
theorem dX2_isInWay_11 : decode cX2_isInWay 11 = .ok (.bipush 30, 2) := by decide +kernel
theorem dX2_isInWay_13 : decode cX2_isInWay 13 = .ok (.iload_n 1, 1) := by decide +kernel
theorem dX2_isInWay_14 : decode cX2_isInWay 14 = .ok (.isub, 1) := by decide +kernel
theorem dX2_isInWay_15 : decode cX2_isInWay 15 = .ok (.if_icmp .le 7, 3) := by decide +kernel
theorem dX2_isInWay_18 : decode cX2_isInWay 18 = .ok (.iconst 1, 1) := by decide +kernel
theorem dX2_isInWay_19 : decode cX2_isInWay 19 = .ok (.goto 4, 3) := by decide +kernel
theorem dX2_isInWay_22 : decode cX2_isInWay 22 = .ok (.iconst 0, 1) := by decide +kernel
theorem dX2_isInWay_23 : decode cX2_isInWay 23 = .ok (.ireturn, 1) := by decide +kernel
theorem dX2_fact_0 : decode cX2_fact 0 = .ok (.iload_n 1, 1) := by decide +kernel
theorem dX2_fact_1 : decode cX2_fact 1 = .ok (.tableswitch 86 0 6 #[43, 48, 53, 58, 63, 68, 73], 43) := by decide +kernel
theorem dX2_fact_44 : decode cX2_fact 44 = .ok (.aload_n 0, 1) := by decide +kernel
theorem dX2_fact_45 : decode cX2_fact 45 = .ok (.getfield 9, 3) := by decide +kernel
theorem dX2_fact_48 : decode cX2_fact 48 = .ok (.ireturn, 1) := by decide +kernel
theorem dX2_fact_49 : decode cX2_fact 49 = .ok (.aload_n 0, 1) := by decide +kernel
theorem dX2_fact_50 : decode cX2_fact 50 = .ok (.getfield 15, 3) := by decide +kernel
theorem dX2_fact_53 : decode cX2_fact 53 = .ok (.ireturn, 1) := by decide +kernel
theorem dX2_fact_54 : decode cX2_fact 54 = .ok (.aload_n 0, 1) := by decide +kernel
theorem dX2_fact_55 : decode cX2_fact 55 = .ok (.getfield 18, 3) := by decide +kernel
theorem dX2_fact_58 : decode cX2_fact 58 = .ok (.ireturn, 1) := by decide +kernel
theorem dX2_fact_59 : decode cX2_fact 59 = .ok (.aload_n 0, 1) := by decide +kernel
theorem dX2_fact_60 : decode cX2_fact 60 = .ok (.getfield 21, 3) := by decide +kernel
theorem dX2_fact_63 : decode cX2_fact 63 = .ok (.ireturn, 1) := by decide +kernel
theorem dX2_fact_64 : decode cX2_fact 64 = .ok (.aload_n 0, 1) := by decide +kernel
theorem dX2_fact_65 : decode cX2_fact 65 = .ok (.getfield 24, 3) := by decide +kernel
theorem dX2_fact_68 : decode cX2_fact 68 = .ok (.ireturn, 1) := by decide +kernel
theorem dX2_fact_69 : decode cX2_fact 69 = .ok (.aload_n 0, 1) := by decide +kernel
theorem dX2_fact_70 : decode cX2_fact 70 = .ok (.getfield 27, 3) := by decide +kernel
theorem dX2_fact_73 : decode cX2_fact 73 = .ok (.ireturn, 1) := by decide +kernel
theorem dX2_fact_74 : decode cX2_fact 74 = .ok (.aload_n 0, 1) := by decide +kernel
theorem dX2_fact_75 : decode cX2_fact 75 = .ok (.getfield 30, 3) := by decide +kernel
theorem dX2_fact_78 : decode cX2_fact 78 = .ok (.ifCond .eq 7, 3) := by decide +kernel
theorem dX2_fact_81 : decode cX2_fact 81 = .ok (.iconst 1, 1) := by decide +kernel
theorem dX2_fact_82 : decode cX2_fact 82 = .ok (.goto 4, 3) := by decide +kernel
theorem dX2_fact_85 : decode cX2_fact 85 = .ok (.iconst 0, 1) := by decide +kernel
theorem dX2_fact_86 : decode cX2_fact 86 = .ok (.ireturn, 1) := by decide +kernel
theorem dX2_fact_87 : decode cX2_fact 87 = .ok (.aload_n 0, 1) := by decide +kernel
theorem dX2_fact_88 : decode cX2_fact 88 = .ok (.getfield 34, 3) := by decide +kernel
theorem dX2_fact_91 : decode cX2_fact 91 = .ok (.ireturn, 1) := by decide +kernel
theorem dX2_catchOf_0 : decode cX2_catchOf 0 = .ok (.iload_n 1, 1) := by decide +kernel
theorem dX2_catchOf_1 : decode cX2_catchOf 1 = .ok (.aload_n 0, 1) := by decide +kernel
theorem dX2_catchOf_2 : decode cX2_catchOf 2 = .ok (.getfield 15, 3) := by decide +kernel
theorem dX2_catchOf_5 : decode cX2_catchOf 5 = .ok (.imul, 1) := by decide +kernel
theorem dX2_catchOf_6 : decode cX2_catchOf 6 = .ok (.aload_n 0, 1) := by decide +kernel
theorem dX2_catchOf_7 : decode cX2_catchOf 7 = .ok (.getfield 18, 3) := by decide +kernel
theorem dX2_catchOf_10 : decode cX2_catchOf 10 = .ok (.imul, 1) := by decide +kernel
theorem dX2_catchOf_11 : decode cX2_catchOf 11 = .ok (.sipush 3000, 3) := by decide +kernel
theorem dX2_catchOf_14 : decode cX2_catchOf 14 = .ok (.idiv, 1) := by decide +kernel
theorem dX2_catchOf_15 : decode cX2_catchOf 15 = .ok (.sipush 200, 3) := by decide +kernel
theorem dX2_catchOf_18 : decode cX2_catchOf 18 = .ok (.aload_n 0, 1) := by decide +kernel
theorem dX2_catchOf_19 : decode cX2_catchOf 19 = .ok (.getfield 27, 3) := by decide +kernel
theorem dX2_catchOf_22 : decode cX2_catchOf 22 = .ok (.isub, 1) := by decide +kernel
theorem dX2_catchOf_23 : decode cX2_catchOf 23 = .ok (.invokestatic 41, 3) := by decide +kernel
theorem dX2_catchOf_26 : decode cX2_catchOf 26 = .ok (.istore_n 2, 1) := by decide +kernel
theorem dX2_catchOf_27 : decode cX2_catchOf 27 = .ok (.aload_n 0, 1) := by decide +kernel
theorem dX2_catchOf_28 : decode cX2_catchOf 28 = .ok (.dup, 1) := by decide +kernel
theorem dX2_catchOf_29 : decode cX2_catchOf 29 = .ok (.getfield 27, 3) := by decide +kernel
theorem dX2_catchOf_32 : decode cX2_catchOf 32 = .ok (.iload_n 2, 1) := by decide +kernel
theorem dX2_catchOf_33 : decode cX2_catchOf 33 = .ok (.iadd, 1) := by decide +kernel
theorem dX2_catchOf_34 : decode cX2_catchOf 34 = .ok (.putfield 27, 3) := by decide +kernel
theorem dX2_catchOf_37 : decode cX2_catchOf 37 = .ok (.iload_n 2, 1) := by decide +kernel
theorem dX2_catchOf_38 : decode cX2_catchOf 38 = .ok (.ireturn, 1) := by decide +kernel
set_option maxRecDepth 20000 in
theorem ggX2_breakFor_X2_loseWattle : GoodIn wsX2_breakFor wsX2_loseWattle := goodIn_r _ [11, 12, 13, 14, 15, 16, 17, 18, 19, 20] (by decide +kernel) (by decide +kernel)
set_option maxRecDepth 20000 in
theorem gX2_breakFor_X2_loseWattle : GoodIn wsX2_breakFor (wsV RX2 47 RX2 yX2_loseWattle wsX2_loseWattle) := goodIn_app (goodIn_of _ (by decide +kernel)) ggX2_breakFor_X2_loseWattle
theorem dX2_breakFor_0 : decode cX2_breakFor 0 = .ok (.aload_n 0, 1) := by decide +kernel
theorem dX2_breakFor_1 : decode cX2_breakFor 1 = .ok (.bipush 30, 2) := by decide +kernel
theorem dX2_breakFor_3 : decode cX2_breakFor 3 = .ok (.iload_n 1, 1) := by decide +kernel
theorem dX2_breakFor_4 : decode cX2_breakFor 4 = .ok (.isub, 1) := by decide +kernel
theorem dX2_breakFor_5 : decode cX2_breakFor 5 = .ok (.putfield 15, 3) := by decide +kernel
theorem dX2_breakFor_8 : decode cX2_breakFor 8 = .ok (.aload_n 0, 1) := by decide +kernel
theorem dX2_breakFor_9 : decode cX2_breakFor 9 = .ok (.bipush 20, 2) := by decide +kernel
theorem dX2_breakFor_11 : decode cX2_breakFor 11 = .ok (.invokevirtual 47, 3) := by decide +kernel
theorem dX2_breakFor_14 : decode cX2_breakFor 14 = .ok (.iconst 3, 1) := by decide +kernel
theorem dX2_breakFor_15 : decode cX2_breakFor 15 = .ok (.aload_n 0, 1) := by decide +kernel
theorem dX2_breakFor_16 : decode cX2_breakFor 16 = .ok (.getfield 24, 3) := by decide +kernel
theorem dX2_breakFor_19 : decode cX2_breakFor 19 = .ok (.invokestatic 41, 3) := by decide +kernel
theorem dX2_breakFor_22 : decode cX2_breakFor 22 = .ok (.istore_n 2, 1) := by decide +kernel
theorem dX2_breakFor_23 : decode cX2_breakFor 23 = .ok (.aload_n 0, 1) := by decide +kernel
theorem dX2_breakFor_24 : decode cX2_breakFor 24 = .ok (.dup, 1) := by decide +kernel
theorem dX2_breakFor_25 : decode cX2_breakFor 25 = .ok (.getfield 24, 3) := by decide +kernel
theorem dX2_breakFor_28 : decode cX2_breakFor 28 = .ok (.iload_n 2, 1) := by decide +kernel
theorem dX2_breakFor_29 : decode cX2_breakFor 29 = .ok (.isub, 1) := by decide +kernel
theorem dX2_breakFor_30 : decode cX2_breakFor 30 = .ok (.putfield 24, 3) := by decide +kernel
theorem dX2_breakFor_33 : decode cX2_breakFor 33 = .ok (.iload_n 2, 1) := by decide +kernel
theorem dX2_breakFor_34 : decode cX2_breakFor 34 = .ok (.ireturn, 1) := by decide +kernel
theorem dX2_loseWattle_0 : decode cX2_loseWattle 0 = .ok (.aload_n 0, 1) := by decide +kernel
theorem dX2_loseWattle_1 : decode cX2_loseWattle 1 = .ok (.aload_n 0, 1) := by decide +kernel
theorem dX2_loseWattle_2 : decode cX2_loseWattle 2 = .ok (.getfield 18, 3) := by decide +kernel
theorem dX2_loseWattle_5 : decode cX2_loseWattle 5 = .ok (.iload_n 1, 1) := by decide +kernel
theorem dX2_loseWattle_6 : decode cX2_loseWattle 6 = .ok (.if_icmp .le 12, 3) := by decide +kernel
theorem dX2_loseWattle_9 : decode cX2_loseWattle 9 = .ok (.aload_n 0, 1) := by decide +kernel
theorem dX2_loseWattle_10 : decode cX2_loseWattle 10 = .ok (.getfield 18, 3) := by decide +kernel
theorem dX2_loseWattle_13 : decode cX2_loseWattle 13 = .ok (.iload_n 1, 1) := by decide +kernel
theorem dX2_loseWattle_14 : decode cX2_loseWattle 14 = .ok (.isub, 1) := by decide +kernel
theorem dX2_loseWattle_15 : decode cX2_loseWattle 15 = .ok (.goto 4, 3) := by decide +kernel
theorem dX2_loseWattle_18 : decode cX2_loseWattle 18 = .ok (.iconst 0, 1) := by decide +kernel
theorem dX2_loseWattle_19 : decode cX2_loseWattle 19 = .ok (.putfield 18, 3) := by decide +kernel
theorem dX2_loseWattle_22 : decode cX2_loseWattle 22 = .ok (.return_, 1) := by decide +kernel
theorem dX2_payRent_0 : decode cX2_payRent 0 = .ok (.aload_n 0, 1) := by decide +kernel
theorem dX2_payRent_1 : decode cX2_payRent 1 = .ok (.getfield 24, 3) := by decide +kernel
theorem dX2_payRent_4 : decode cX2_payRent 4 = .ok (.aload_n 0, 1) := by decide +kernel
theorem dX2_payRent_5 : decode cX2_payRent 5 = .ok (.getfield 21, 3) := by decide +kernel
theorem dX2_payRent_8 : decode cX2_payRent 8 = .ok (.if_icmp .lt 26, 3) := by decide +kernel
theorem dX2_payRent_11 : decode cX2_payRent 11 = .ok (.aload_n 0, 1) := by decide +kernel
theorem dX2_payRent_12 : decode cX2_payRent 12 = .ok (.dup, 1) := by decide +kernel
theorem dX2_payRent_13 : decode cX2_payRent 13 = .ok (.getfield 24, 3) := by decide +kernel
theorem dX2_payRent_16 : decode cX2_payRent 16 = .ok (.aload_n 0, 1) := by decide +kernel
theorem dX2_payRent_17 : decode cX2_payRent 17 = .ok (.getfield 21, 3) := by decide +kernel
theorem dX2_payRent_20 : decode cX2_payRent 20 = .ok (.isub, 1) := by decide +kernel
theorem dX2_payRent_21 : decode cX2_payRent 21 = .ok (.putfield 24, 3) := by decide +kernel
theorem dX2_payRent_24 : decode cX2_payRent 24 = .ok (.aload_n 0, 1) := by decide +kernel
theorem dX2_payRent_25 : decode cX2_payRent 25 = .ok (.iconst 0, 1) := by decide +kernel
theorem dX2_payRent_26 : decode cX2_payRent 26 = .ok (.putfield 34, 3) := by decide +kernel
theorem dX2_payRent_29 : decode cX2_payRent 29 = .ok (.aload_n 0, 1) := by decide +kernel
theorem dX2_payRent_30 : decode cX2_payRent 30 = .ok (.getfield 21, 3) := by decide +kernel
theorem dX2_payRent_33 : decode cX2_payRent 33 = .ok (.ireturn, 1) := by decide +kernel
theorem dX2_payRent_34 : decode cX2_payRent 34 = .ok (.aload_n 0, 1) := by decide +kernel
theorem dX2_payRent_35 : decode cX2_payRent 35 = .ok (.dup, 1) := by decide +kernel
theorem dX2_payRent_36 : decode cX2_payRent 36 = .ok (.getfield 34, 3) := by decide +kernel
theorem dX2_payRent_39 : decode cX2_payRent 39 = .ok (.iconst 1, 1) := by decide +kernel
theorem dX2_payRent_40 : decode cX2_payRent 40 = .ok (.iadd, 1) := by decide +kernel
theorem dX2_payRent_41 : decode cX2_payRent 41 = .ok (.putfield 34, 3) := by decide +kernel
theorem dX2_payRent_44 : decode cX2_payRent 44 = .ok (.aload_n 0, 1) := by decide +kernel
theorem dX2_payRent_45 : decode cX2_payRent 45 = .ok (.getfield 34, 3) := by decide +kernel
theorem dX2_payRent_48 : decode cX2_payRent 48 = .ok (.iconst 3, 1) := by decide +kernel
theorem dX2_payRent_49 : decode cX2_payRent 49 = .ok (.if_icmp .lt 8, 3) := by decide +kernel
theorem dX2_payRent_52 : decode cX2_payRent 52 = .ok (.aload_n 0, 1) := by decide +kernel
theorem dX2_payRent_53 : decode cX2_payRent 53 = .ok (.iconst 0, 1) := by decide +kernel
theorem dX2_payRent_54 : decode cX2_payRent 54 = .ok (.putfield 27, 3) := by decide +kernel
theorem dX2_payRent_57 : decode cX2_payRent 57 = .ok (.iconst 0, 1) := by decide +kernel
theorem dX2_payRent_58 : decode cX2_payRent 58 = .ok (.ireturn, 1) := by decide +kernel
set_option maxRecDepth 20000 in
theorem ggX3_init_X1_init : GoodIn wsX3_init wsX1_init := goodIn_r _ [11, 12, 2, 3, 13, 14, 15, 16, 17, 18, 19, 20, 21, 22, 23, 24, 25, 26, 27, 28, 29, 30, 31, 32, 33, 34, 35, 36, 37, 38, 39, 42, 43, 44, 45, 46, 47, 48, 49, 50, 51, 52, 53] (by decide +kernel) (by decide +kernel)
set_option maxRecDepth 20000 in
theorem gX3_init_X1_init : GoodIn wsX3_init (wsX1_init) := ggX3_init_X1_init
theorem dX3_init_0 : decode cX3_init 0 = .ok (.aload_n 0, 1) := by decide +kernel
theorem dX3_init_1 : decode cX3_init 1 = .ok (.invokespecial 3, 3) := by decide +kernel
theorem dX3_init_4 : decode cX3_init 4 = .ok (.aload_n 0, 1) := by decide +kernel
theorem dX3_init_5 : decode cX3_init 5 = .ok (.new 9, 3) := by decide +kernel
theorem dX3_init_8 : decode cX3_init 8 = .ok (.dup, 1) := by decide +kernel
theorem dX3_init_9 : decode cX3_init 9 = .ok (.invokespecial 11, 3) := by decide +kernel
theorem dX3_init_12 : decode cX3_init 12 = .ok (.putfield 12, 3) := by decide +kernel
theorem dX3_init_15 : decode cX3_init 15 = .ok (.aload_n 0, 1) := by decide +kernel
theorem dX3_init_16 : decode cX3_init 16 = .ok (.new 9, 3) := by decide +kernel
theorem dX3_init_19 : decode cX3_init 19 = .ok (.dup, 1) := by decide +kernel
theorem dX3_init_20 : decode cX3_init 20 = .ok (.invokespecial 11, 3) := by decide +kernel
theorem dX3_init_23 : decode cX3_init 23 = .ok (.putfield 16, 3) := by decide +kernel
theorem dX3_init_26 : decode cX3_init 26 = .ok (.return_, 1) := by decide +kernel
set_option maxRecDepth 20000 in
theorem ggX3_weir_X3_isWithin : GoodIn wsX3_weir wsX3_isWithin := goodIn_r _ [10] (by decide +kernel) (by decide +kernel)
set_option maxRecDepth 20000 in
theorem gX3_weir_X3_isWithin : GoodIn wsX3_weir (va_wsS RX3 19 yX3_isWithin wsX3_isWithin) := goodIn_app (goodIn_of _ (by decide +kernel)) ggX3_weir_X3_isWithin
set_option maxRecDepth 20000 in
theorem ggX3_weir_X1_addWeir : GoodIn wsX3_weir wsX1_addWeir := goodIn_r _ [15, 16, 17, 18, 19, 14, 20, 21, 22, 23, 24, 25, 26, 27, 28, 29, 30, 31, 32, 33, 34, 35, 36, 37, 38, 39, 40, 41, 42, 43, 44, 47, 48, 49, 50, 51, 52, 53, 54, 55, 56, 57, 58, 59, 60, 61, 62, 63, 64] (by decide +kernel) (by decide +kernel)
set_option maxRecDepth 20000 in
theorem gX3_weir_X1_addWeir : GoodIn wsX3_weir (wsV RX3 39 RX1 yX1_addWeir wsX1_addWeir) := goodIn_app (goodIn_of _ (by decide +kernel)) ggX3_weir_X1_addWeir
theorem dX3_weir_0 : decode cX3_weir 0 = .ok (.iload_n 1, 1) := by decide +kernel
theorem dX3_weir_1 : decode cX3_weir 1 = .ok (.iconst 0, 1) := by decide +kernel
theorem dX3_weir_2 : decode cX3_weir 2 = .ok (.bipush 39, 2) := by decide +kernel
theorem dX3_weir_4 : decode cX3_weir 4 = .ok (.invokestatic 19, 3) := by decide +kernel
theorem dX3_weir_7 : decode cX3_weir 7 = .ok (.ifCond .eq 23, 3) := by decide +kernel
theorem dX3_weir_10 : decode cX3_weir 10 = .ok (.iload_n 2, 1) := by decide +kernel
theorem dX3_weir_11 : decode cX3_weir 11 = .ok (.iconst 1, 1) := by decide +kernel
theorem dX3_weir_12 : decode cX3_weir 12 = .ok (.bipush 30, 2) := by decide +kernel
theorem dX3_weir_14 : decode cX3_weir 14 = .ok (.invokestatic 19, 3) := by decide +kernel
theorem dX3_weir_17 : decode cX3_weir 17 = .ok (.ifCond .eq 13, 3) := by decide +kernel
theorem dX3_weir_20 : decode cX3_weir 20 = .ok (.iload_n 3, 1) := by decide +kernel
theorem dX3_weir_21 : decode cX3_weir 21 = .ok (.iconst 0, 1) := by decide +kernel
theorem dX3_weir_22 : decode cX3_weir 22 = .ok (.bipush 50, 2) := by decide +kernel
theorem dX3_weir_24 : decode cX3_weir 24 = .ok (.invokestatic 19, 3) := by decide +kernel
theorem dX3_weir_27 : decode cX3_weir 27 = .ok (.ifCond .ne 13, 3) := by decide +kernel
theorem dX3_weir_30 : decode cX3_weir 30 = .ok (.new 23, 3) := by decide +kernel
theorem dX3_weir_33 : decode cX3_weir 33 = .ok (.dup, 1) := by decide +kernel
theorem dX3_weir_34 : decode cX3_weir 34 = .ok (.ldc 25, 2) := by decide +kernel
theorem dX3_weir_36 : decode cX3_weir 36 = .ok (.invokespecial 27, 3) := by decide +kernel
theorem dX3_weir_39 : decode cX3_weir 39 = .ok (.athrow, 1) := by decide +kernel
theorem dX3_weir_40 : decode cX3_weir 40 = .ok (.aload_n 0, 1) := by decide +kernel
theorem dX3_weir_41 : decode cX3_weir 41 = .ok (.getfield 12, 3) := by decide +kernel
theorem dX3_weir_44 : decode cX3_weir 44 = .ok (.getfield 30, 3) := by decide +kernel
theorem dX3_weir_47 : decode cX3_weir 47 = .ok (.bipush 6, 2) := by decide +kernel
theorem dX3_weir_49 : decode cX3_weir 49 = .ok (.if_icmp .lt 13, 3) := by decide +kernel
theorem dX3_weir_52 : decode cX3_weir 52 = .ok (.new 34, 3) := by decide +kernel
theorem dX3_weir_55 : decode cX3_weir 55 = .ok (.dup, 1) := by decide +kernel
theorem dX3_weir_56 : decode cX3_weir 56 = .ok (.ldc 36, 2) := by decide +kernel
theorem dX3_weir_58 : decode cX3_weir 58 = .ok (.invokespecial 38, 3) := by decide +kernel
theorem dX3_weir_61 : decode cX3_weir 61 = .ok (.athrow, 1) := by decide +kernel
theorem dX3_weir_62 : decode cX3_weir 62 = .ok (.aload_n 0, 1) := by decide +kernel
theorem dX3_weir_63 : decode cX3_weir 63 = .ok (.getfield 12, 3) := by decide +kernel
theorem dX3_weir_66 : decode cX3_weir 66 = .ok (.iload_n 1, 1) := by decide +kernel
theorem dX3_weir_67 : decode cX3_weir 67 = .ok (.iload_n 2, 1) := by decide +kernel
theorem dX3_weir_68 : decode cX3_weir 68 = .ok (.iload_n 3, 1) := by decide +kernel
theorem dX3_weir_69 : decode cX3_weir 69 = .ok (.invokevirtual 39, 3) := by decide +kernel
theorem dX3_weir_72 : decode cX3_weir 72 = .ok (.ireturn, 1) := by decide +kernel
set_option maxRecDepth 20000 in
theorem ggX3_gate_X1_weirAt : GoodIn wsX3_gate wsX1_weirAt := goodIn_r _ [11, 12, 13, 30, 31, 32, 33, 34, 35, 36, 37, 38, 39] (by decide +kernel) (by decide +kernel)
set_option maxRecDepth 20000 in
theorem gX3_gate_X1_weirAt : GoodIn wsX3_gate (wsV RX3 43 RX1 yX1_weirAt wsX1_weirAt) := goodIn_app (goodIn_of _ (by decide +kernel)) ggX3_gate_X1_weirAt
set_option maxRecDepth 20000 in
theorem ggX3_gate_X2_isHeld : GoodIn wsX3_gate wsX2_isHeld := goodIn_r _ [18, 19, 22, 23, 24, 25, 26, 27, 28, 29] (by decide +kernel) (by decide +kernel)
set_option maxRecDepth 20000 in
theorem gX3_gate_X2_isHeld : GoodIn wsX3_gate (wsV RX3 52 RX2 yX2_isHeld wsX2_isHeld) := goodIn_app (goodIn_of _ (by decide +kernel)) ggX3_gate_X2_isHeld
theorem dX3_gate_0 : decode cX3_gate 0 = .ok (.aload_n 0, 1) := by decide +kernel
theorem dX3_gate_1 : decode cX3_gate 1 = .ok (.getfield 12, 3) := by decide +kernel
theorem dX3_gate_4 : decode cX3_gate 4 = .ok (.iload_n 1, 1) := by decide +kernel
theorem dX3_gate_5 : decode cX3_gate 5 = .ok (.invokevirtual 43, 3) := by decide +kernel
theorem dX3_gate_8 : decode cX3_gate 8 = .ok (.astore_n 2, 1) := by decide +kernel
theorem dX3_gate_9 : decode cX3_gate 9 = .ok (.aload_n 2, 1) := by decide +kernel
theorem dX3_gate_10 : decode cX3_gate 10 = .ok (.ifnonnull 13, 3) := by decide +kernel
theorem dX3_gate_13 : decode cX3_gate 13 = .ok (.new 47, 3) := by decide +kernel
theorem dX3_gate_16 : decode cX3_gate 16 = .ok (.dup, 1) := by decide +kernel
theorem dX3_gate_17 : decode cX3_gate 17 = .ok (.ldc 49, 2) := by decide +kernel
theorem dX3_gate_19 : decode cX3_gate 19 = .ok (.invokespecial 51, 3) := by decide +kernel
theorem dX3_gate_22 : decode cX3_gate 22 = .ok (.athrow, 1) := by decide +kernel
theorem dX3_gate_23 : decode cX3_gate 23 = .ok (.aload_n 2, 1) := by decide +kernel
theorem dX3_gate_24 : decode cX3_gate 24 = .ok (.invokevirtual 52, 3) := by decide +kernel
theorem dX3_gate_27 : decode cX3_gate 27 = .ok (.ifCond .ne 13, 3) := by decide +kernel
theorem dX3_gate_30 : decode cX3_gate 30 = .ok (.new 34, 3) := by decide +kernel
theorem dX3_gate_33 : decode cX3_gate 33 = .ok (.dup, 1) := by decide +kernel
theorem dX3_gate_34 : decode cX3_gate 34 = .ok (.ldc 58, 2) := by decide +kernel
theorem dX3_gate_36 : decode cX3_gate 36 = .ok (.invokespecial 38, 3) := by decide +kernel
theorem dX3_gate_39 : decode cX3_gate 39 = .ok (.athrow, 1) := by decide +kernel
theorem dX3_gate_40 : decode cX3_gate 40 = .ok (.aload_n 2, 1) := by decide +kernel
theorem dX3_gate_41 : decode cX3_gate 41 = .ok (.aload_n 2, 1) := by decide +kernel
theorem dX3_gate_42 : decode cX3_gate 42 = .ok (.getfield 60, 3) := by decide +kernel
theorem dX3_gate_45 : decode cX3_gate 45 = .ok (.ifCond .ne 7, 3) := by decide +kernel
theorem dX3_gate_48 : decode cX3_gate 48 = .ok (.iconst 1, 1) := by decide +kernel
theorem dX3_gate_49 : decode cX3_gate 49 = .ok (.goto 4, 3) := by decide +kernel
theorem dX3_gate_52 : decode cX3_gate 52 = .ok (.iconst 0, 1) := by decide +kernel
theorem dX3_gate_53 : decode cX3_gate 53 = .ok (.putfield 60, 3) := by decide +kernel
theorem dX3_gate_56 : decode cX3_gate 56 = .ok (.aload_n 2, 1) := by decide +kernel
theorem dX3_gate_57 : decode cX3_gate 57 = .ok (.getfield 60, 3) := by decide +kernel
theorem dX3_gate_60 : decode cX3_gate 60 = .ok (.ireturn, 1) := by decide +kernel
set_option maxRecDepth 20000 in
theorem ggX3_mend_X1_weirAt : GoodIn wsX3_mend wsX1_weirAt := goodIn_r _ [14, 15, 16, 37, 38, 39, 40, 41, 42, 43, 44, 45, 46] (by decide +kernel) (by decide +kernel)
set_option maxRecDepth 20000 in
theorem gX3_mend_X1_weirAt : GoodIn wsX3_mend (wsV RX3 43 RX1 yX1_weirAt wsX1_weirAt) := goodIn_app (goodIn_of _ (by decide +kernel)) ggX3_mend_X1_weirAt
set_option maxRecDepth 20000 in
theorem ggX3_mend_X3_isWithin : GoodIn wsX3_mend wsX3_isWithin := goodIn_r _ [20] (by decide +kernel) (by decide +kernel)
set_option maxRecDepth 20000 in
theorem gX3_mend_X3_isWithin : GoodIn wsX3_mend (va_wsS RX3 19 yX3_isWithin wsX3_isWithin) := goodIn_app (goodIn_of _ (by decide +kernel)) ggX3_mend_X3_isWithin
set_option maxRecDepth 20000 in
theorem ggX3_mend_X2_isHeld : GoodIn wsX3_mend wsX2_isHeld := goodIn_r _ [25, 26, 29, 30, 31, 32, 33, 34, 35, 36] (by decide +kernel) (by decide +kernel)
set_option maxRecDepth 20000 in
theorem gX3_mend_X2_isHeld : GoodIn wsX3_mend (wsV RX3 52 RX2 yX2_isHeld wsX2_isHeld) := goodIn_app (goodIn_of _ (by decide +kernel)) ggX3_mend_X2_isHeld
theorem dX3_mend_0 : decode cX3_mend 0 = .ok (.aload_n 0, 1) := by decide +kernel
theorem dX3_mend_1 : decode cX3_mend 1 = .ok (.getfield 12, 3) := by decide +kernel
theorem dX3_mend_4 : decode cX3_mend 4 = .ok (.iload_n 1, 1) := by decide +kernel
theorem dX3_mend_5 : decode cX3_mend 5 = .ok (.invokevirtual 43, 3) := by decide +kernel
theorem dX3_mend_8 : decode cX3_mend 8 = .ok (.astore_n 3, 1) := by decide +kernel
theorem dX3_mend_9 : decode cX3_mend 9 = .ok (.aload_n 3, 1) := by decide +kernel
theorem dX3_mend_10 : decode cX3_mend 10 = .ok (.ifnonnull 13, 3) := by decide +kernel
theorem dX3_mend_13 : decode cX3_mend 13 = .ok (.new 47, 3) := by decide +kernel
theorem dX3_mend_16 : decode cX3_mend 16 = .ok (.dup, 1) := by decide +kernel
theorem dX3_mend_17 : decode cX3_mend 17 = .ok (.ldc 49, 2) := by decide +kernel
theorem dX3_mend_19 : decode cX3_mend 19 = .ok (.invokespecial 51, 3) := by decide +kernel
theorem dX3_mend_22 : decode cX3_mend 22 = .ok (.athrow, 1) := by decide +kernel
theorem dX3_mend_23 : decode cX3_mend 23 = .ok (.iload_n 2, 1) := by decide +kernel
theorem dX3_mend_24 : decode cX3_mend 24 = .ok (.iconst 1, 1) := by decide +kernel
theorem dX3_mend_25 : decode cX3_mend 25 = .ok (.bipush 100, 2) := by decide +kernel
theorem dX3_mend_27 : decode cX3_mend 27 = .ok (.invokestatic 19, 3) := by decide +kernel
theorem dX3_mend_30 : decode cX3_mend 30 = .ok (.ifCond .ne 13, 3) := by decide +kernel
theorem dX3_mend_33 : decode cX3_mend 33 = .ok (.new 23, 3) := by decide +kernel
theorem dX3_mend_36 : decode cX3_mend 36 = .ok (.dup, 1) := by decide +kernel
theorem dX3_mend_37 : decode cX3_mend 37 = .ok (.ldc 64, 2) := by decide +kernel
theorem dX3_mend_39 : decode cX3_mend 39 = .ok (.invokespecial 27, 3) := by decide +kernel
theorem dX3_mend_42 : decode cX3_mend 42 = .ok (.athrow, 1) := by decide +kernel
theorem dX3_mend_43 : decode cX3_mend 43 = .ok (.iload_n 2, 1) := by decide +kernel
theorem dX3_mend_44 : decode cX3_mend 44 = .ok (.iconst 5, 1) := by decide +kernel
theorem dX3_mend_45 : decode cX3_mend 45 = .ok (.iadd, 1) := by decide +kernel
theorem dX3_mend_46 : decode cX3_mend 46 = .ok (.iconst 1, 1) := by decide +kernel
theorem dX3_mend_47 : decode cX3_mend 47 = .ok (.isub, 1) := by decide +kernel
theorem dX3_mend_48 : decode cX3_mend 48 = .ok (.iconst 5, 1) := by decide +kernel
theorem dX3_mend_49 : decode cX3_mend 49 = .ok (.idiv, 1) := by decide +kernel
theorem dX3_mend_50 : decode cX3_mend 50 = .ok (.istore 4, 2) := by decide +kernel
theorem dX3_mend_52 : decode cX3_mend 52 = .ok (.aload_n 3, 1) := by decide +kernel
theorem dX3_mend_53 : decode cX3_mend 53 = .ok (.invokevirtual 52, 3) := by decide +kernel
theorem dX3_mend_56 : decode cX3_mend 56 = .ok (.ifCond .eq 23, 3) := by decide +kernel
theorem dX3_mend_59 : decode cX3_mend 59 = .ok (.aload_n 3, 1) := by decide +kernel
theorem dX3_mend_60 : decode cX3_mend 60 = .ok (.getfield 66, 3) := by decide +kernel
theorem dX3_mend_63 : decode cX3_mend 63 = .ok (.iload_n 2, 1) := by decide +kernel
theorem dX3_mend_64 : decode cX3_mend 64 = .ok (.iadd, 1) := by decide +kernel
theorem dX3_mend_65 : decode cX3_mend 65 = .ok (.bipush 100, 2) := by decide +kernel
theorem dX3_mend_67 : decode cX3_mend 67 = .ok (.if_icmp .gt 12, 3) := by decide +kernel
theorem dX3_mend_70 : decode cX3_mend 70 = .ok (.aload_n 3, 1) := by decide +kernel
theorem dX3_mend_71 : decode cX3_mend 71 = .ok (.getfield 69, 3) := by decide +kernel
theorem dX3_mend_74 : decode cX3_mend 74 = .ok (.iload 4, 2) := by decide +kernel
theorem dX3_mend_76 : decode cX3_mend 76 = .ok (.if_icmp .ge 13, 3) := by decide +kernel
theorem dX3_mend_79 : decode cX3_mend 79 = .ok (.new 34, 3) := by decide +kernel
theorem dX3_mend_82 : decode cX3_mend 82 = .ok (.dup, 1) := by decide +kernel
theorem dX3_mend_83 : decode cX3_mend 83 = .ok (.ldc 72, 2) := by decide +kernel
theorem dX3_mend_85 : decode cX3_mend 85 = .ok (.invokespecial 38, 3) := by decide +kernel
theorem dX3_mend_88 : decode cX3_mend 88 = .ok (.athrow, 1) := by decide +kernel
theorem dX3_mend_89 : decode cX3_mend 89 = .ok (.aload_n 3, 1) := by decide +kernel
theorem dX3_mend_90 : decode cX3_mend 90 = .ok (.dup, 1) := by decide +kernel
theorem dX3_mend_91 : decode cX3_mend 91 = .ok (.getfield 69, 3) := by decide +kernel
theorem dX3_mend_94 : decode cX3_mend 94 = .ok (.iload 4, 2) := by decide +kernel
theorem dX3_mend_96 : decode cX3_mend 96 = .ok (.isub, 1) := by decide +kernel
theorem dX3_mend_97 : decode cX3_mend 97 = .ok (.putfield 69, 3) := by decide +kernel
theorem dX3_mend_100 : decode cX3_mend 100 = .ok (.aload_n 3, 1) := by decide +kernel
theorem dX3_mend_101 : decode cX3_mend 101 = .ok (.dup, 1) := by decide +kernel
theorem dX3_mend_102 : decode cX3_mend 102 = .ok (.getfield 66, 3) := by decide +kernel
theorem dX3_mend_105 : decode cX3_mend 105 = .ok (.iload_n 2, 1) := by decide +kernel
theorem dX3_mend_106 : decode cX3_mend 106 = .ok (.iadd, 1) := by decide +kernel
theorem dX3_mend_107 : decode cX3_mend 107 = .ok (.putfield 66, 3) := by decide +kernel
theorem dX3_mend_110 : decode cX3_mend 110 = .ok (.aload_n 3, 1) := by decide +kernel
theorem dX3_mend_111 : decode cX3_mend 111 = .ok (.getfield 66, 3) := by decide +kernel
theorem dX3_mend_114 : decode cX3_mend 114 = .ok (.ireturn, 1) := by decide +kernel
set_option maxRecDepth 20000 in
theorem ggX3_drive_X1_weirAt : GoodIn wsX3_drive wsX1_weirAt := goodIn_r _ [14, 15, 16, 37, 38, 39, 40, 41, 42, 43, 44, 45, 46] (by decide +kernel) (by decide +kernel)
set_option maxRecDepth 20000 in
theorem gX3_drive_X1_weirAt : GoodIn wsX3_drive (wsV RX3 43 RX1 yX1_weirAt wsX1_weirAt) := goodIn_app (goodIn_of _ (by decide +kernel)) ggX3_drive_X1_weirAt
set_option maxRecDepth 20000 in
theorem ggX3_drive_X3_isWithin : GoodIn wsX3_drive wsX3_isWithin := goodIn_r _ [20] (by decide +kernel) (by decide +kernel)
set_option maxRecDepth 20000 in
theorem gX3_drive_X3_isWithin : GoodIn wsX3_drive (va_wsS RX3 19 yX3_isWithin wsX3_isWithin) := goodIn_app (goodIn_of _ (by decide +kernel)) ggX3_drive_X3_isWithin
set_option maxRecDepth 20000 in
theorem ggX3_drive_X2_isHeld : GoodIn wsX3_drive wsX2_isHeld := goodIn_r _ [25, 26, 29, 30, 31, 32, 33, 34, 35, 36] (by decide +kernel) (by decide +kernel)
set_option maxRecDepth 20000 in
theorem gX3_drive_X2_isHeld : GoodIn wsX3_drive (wsV RX3 52 RX2 yX2_isHeld wsX2_isHeld) := goodIn_app (goodIn_of _ (by decide +kernel)) ggX3_drive_X2_isHeld
theorem dX3_drive_0 : decode cX3_drive 0 = .ok (.aload_n 0, 1) := by decide +kernel
theorem dX3_drive_1 : decode cX3_drive 1 = .ok (.getfield 12, 3) := by decide +kernel
theorem dX3_drive_4 : decode cX3_drive 4 = .ok (.iload_n 1, 1) := by decide +kernel
theorem dX3_drive_5 : decode cX3_drive 5 = .ok (.invokevirtual 43, 3) := by decide +kernel
theorem dX3_drive_8 : decode cX3_drive 8 = .ok (.astore_n 3, 1) := by decide +kernel
theorem dX3_drive_9 : decode cX3_drive 9 = .ok (.aload_n 3, 1) := by decide +kernel
theorem dX3_drive_10 : decode cX3_drive 10 = .ok (.ifnonnull 13, 3) := by decide +kernel
theorem dX3_drive_13 : decode cX3_drive 13 = .ok (.new 47, 3) := by decide +kernel
theorem dX3_drive_16 : decode cX3_drive 16 = .ok (.dup, 1) := by decide +kernel
theorem dX3_drive_17 : decode cX3_drive 17 = .ok (.ldc 49, 2) := by decide +kernel
theorem dX3_drive_19 : decode cX3_drive 19 = .ok (.invokespecial 51, 3) := by decide +kernel
theorem dX3_drive_22 : decode cX3_drive 22 = .ok (.athrow, 1) := by decide +kernel
theorem dX3_drive_23 : decode cX3_drive 23 = .ok (.iload_n 2, 1) := by decide +kernel
theorem dX3_drive_24 : decode cX3_drive 24 = .ok (.iconst 1, 1) := by decide +kernel
theorem dX3_drive_25 : decode cX3_drive 25 = .ok (.bipush 30, 2) := by decide +kernel
theorem dX3_drive_27 : decode cX3_drive 27 = .ok (.invokestatic 19, 3) := by decide +kernel
theorem dX3_drive_30 : decode cX3_drive 30 = .ok (.ifCond .ne 13, 3) := by decide +kernel
theorem dX3_drive_33 : decode cX3_drive 33 = .ok (.new 23, 3) := by decide +kernel
theorem dX3_drive_36 : decode cX3_drive 36 = .ok (.dup, 1) := by decide +kernel
theorem dX3_drive_37 : decode cX3_drive 37 = .ok (.ldc 74, 2) := by decide +kernel
theorem dX3_drive_39 : decode cX3_drive 39 = .ok (.invokespecial 27, 3) := by decide +kernel
theorem dX3_drive_42 : decode cX3_drive 42 = .ok (.athrow, 1) := by decide +kernel
theorem dX3_drive_43 : decode cX3_drive 43 = .ok (.iload_n 2, 1) := by decide +kernel
theorem dX3_drive_44 : decode cX3_drive 44 = .ok (.iconst 2, 1) := by decide +kernel
theorem dX3_drive_45 : decode cX3_drive 45 = .ok (.imul, 1) := by decide +kernel
theorem dX3_drive_46 : decode cX3_drive 46 = .ok (.istore 4, 2) := by decide +kernel
theorem dX3_drive_48 : decode cX3_drive 48 = .ok (.aload_n 3, 1) := by decide +kernel
theorem dX3_drive_49 : decode cX3_drive 49 = .ok (.invokevirtual 52, 3) := by decide +kernel
theorem dX3_drive_52 : decode cX3_drive 52 = .ok (.ifCond .eq 23, 3) := by decide +kernel
theorem dX3_drive_55 : decode cX3_drive 55 = .ok (.aload_n 3, 1) := by decide +kernel
theorem dX3_drive_56 : decode cX3_drive 56 = .ok (.getfield 76, 3) := by decide +kernel
theorem dX3_drive_59 : decode cX3_drive 59 = .ok (.iload_n 2, 1) := by decide +kernel
theorem dX3_drive_60 : decode cX3_drive 60 = .ok (.iadd, 1) := by decide +kernel
theorem dX3_drive_61 : decode cX3_drive 61 = .ok (.bipush 30, 2) := by decide +kernel
theorem dX3_drive_63 : decode cX3_drive 63 = .ok (.if_icmp .gt 12, 3) := by decide +kernel
theorem dX3_drive_66 : decode cX3_drive 66 = .ok (.aload_n 3, 1) := by decide +kernel
theorem dX3_drive_67 : decode cX3_drive 67 = .ok (.getfield 69, 3) := by decide +kernel
theorem dX3_drive_70 : decode cX3_drive 70 = .ok (.iload 4, 2) := by decide +kernel
theorem dX3_drive_72 : decode cX3_drive 72 = .ok (.if_icmp .ge 13, 3) := by decide +kernel
theorem dX3_drive_75 : decode cX3_drive 75 = .ok (.new 34, 3) := by decide +kernel
theorem dX3_drive_78 : decode cX3_drive 78 = .ok (.dup, 1) := by decide +kernel
theorem dX3_drive_79 : decode cX3_drive 79 = .ok (.ldc 79, 2) := by decide +kernel
theorem dX3_drive_81 : decode cX3_drive 81 = .ok (.invokespecial 38, 3) := by decide +kernel
theorem dX3_drive_84 : decode cX3_drive 84 = .ok (.athrow, 1) := by decide +kernel
theorem dX3_drive_85 : decode cX3_drive 85 = .ok (.aload_n 3, 1) := by decide +kernel
theorem dX3_drive_86 : decode cX3_drive 86 = .ok (.dup, 1) := by decide +kernel
theorem dX3_drive_87 : decode cX3_drive 87 = .ok (.getfield 69, 3) := by decide +kernel
theorem dX3_drive_90 : decode cX3_drive 90 = .ok (.iload 4, 2) := by decide +kernel
theorem dX3_drive_92 : decode cX3_drive 92 = .ok (.isub, 1) := by decide +kernel
theorem dX3_drive_93 : decode cX3_drive 93 = .ok (.putfield 69, 3) := by decide +kernel
theorem dX3_drive_96 : decode cX3_drive 96 = .ok (.aload_n 3, 1) := by decide +kernel
theorem dX3_drive_97 : decode cX3_drive 97 = .ok (.dup, 1) := by decide +kernel
theorem dX3_drive_98 : decode cX3_drive 98 = .ok (.getfield 76, 3) := by decide +kernel
theorem dX3_drive_101 : decode cX3_drive 101 = .ok (.iload_n 2, 1) := by decide +kernel
theorem dX3_drive_102 : decode cX3_drive 102 = .ok (.iadd, 1) := by decide +kernel
theorem dX3_drive_103 : decode cX3_drive 103 = .ok (.putfield 76, 3) := by decide +kernel
theorem dX3_drive_106 : decode cX3_drive 106 = .ok (.aload_n 3, 1) := by decide +kernel
theorem dX3_drive_107 : decode cX3_drive 107 = .ok (.getfield 76, 3) := by decide +kernel
theorem dX3_drive_110 : decode cX3_drive 110 = .ok (.ireturn, 1) := by decide +kernel
set_option maxRecDepth 20000 in
theorem ggX3_sell_X1_weirAt : GoodIn wsX3_sell wsX1_weirAt := goodIn_r _ [12, 13, 14, 44, 45, 46, 47, 48, 49, 50, 51, 52, 53] (by decide +kernel) (by decide +kernel)
set_option maxRecDepth 20000 in
theorem gX3_sell_X1_weirAt : GoodIn wsX3_sell (wsV RX3 43 RX1 yX1_weirAt wsX1_weirAt) := goodIn_app (goodIn_of _ (by decide +kernel)) ggX3_sell_X1_weirAt
set_option maxRecDepth 20000 in
theorem ggX3_sell_X2_isHeld : GoodIn wsX3_sell wsX2_isHeld := goodIn_r _ [19, 20, 36, 37, 38, 39, 40, 41, 42, 43] (by decide +kernel) (by decide +kernel)
set_option maxRecDepth 20000 in
theorem gX3_sell_X2_isHeld : GoodIn wsX3_sell (wsV RX3 52 RX2 yX2_isHeld wsX2_isHeld) := goodIn_app (goodIn_of _ (by decide +kernel)) ggX3_sell_X2_isHeld
set_option maxRecDepth 20000 in
theorem ggX3_sell_X1_moon : GoodIn wsX3_sell wsX1_moon := goodIn_r _ [24, 25, 26, 27, 28, 29, 44, 45, 46, 47, 48, 49, 50, 51, 52, 53] (by decide +kernel) (by decide +kernel)
set_option maxRecDepth 20000 in
theorem gX3_sell_X1_moon : GoodIn wsX3_sell (wsV RX3 86 RX1 yX1_moon wsX1_moon) := goodIn_app (goodIn_of _ (by decide +kernel)) ggX3_sell_X1_moon
set_option maxRecDepth 20000 in
theorem ggX3_sell_X3_priceOfEels : GoodIn wsX3_sell wsX3_priceOfEels := goodIn_r _ [33] (by decide +kernel) (by decide +kernel)
set_option maxRecDepth 20000 in
theorem gX3_sell_X3_priceOfEels : GoodIn wsX3_sell (va_wsS RX3 90 yX3_priceOfEels wsX3_priceOfEels) := goodIn_app (goodIn_of _ (by decide +kernel)) ggX3_sell_X3_priceOfEels
theorem dX3_sell_0 : decode cX3_sell 0 = .ok (.aload_n 0, 1) := by decide +kernel
theorem dX3_sell_1 : decode cX3_sell 1 = .ok (.getfield 12, 3) := by decide +kernel
theorem dX3_sell_4 : decode cX3_sell 4 = .ok (.iload_n 1, 1) := by decide +kernel
theorem dX3_sell_5 : decode cX3_sell 5 = .ok (.invokevirtual 43, 3) := by decide +kernel
theorem dX3_sell_8 : decode cX3_sell 8 = .ok (.astore_n 2, 1) := by decide +kernel
theorem dX3_sell_9 : decode cX3_sell 9 = .ok (.aload_n 2, 1) := by decide +kernel
theorem dX3_sell_10 : decode cX3_sell 10 = .ok (.ifnonnull 13, 3) := by decide +kernel
theorem dX3_sell_13 : decode cX3_sell 13 = .ok (.new 47, 3) := by decide +kernel
theorem dX3_sell_16 : decode cX3_sell 16 = .ok (.dup, 1) := by decide +kernel
theorem dX3_sell_17 : decode cX3_sell 17 = .ok (.ldc 49, 2) := by decide +kernel
theorem dX3_sell_19 : decode cX3_sell 19 = .ok (.invokespecial 51, 3) := by decide +kernel
theorem dX3_sell_22 : decode cX3_sell 22 = .ok (.athrow, 1) := by decide +kernel
theorem dX3_sell_23 : decode cX3_sell 23 = .ok (.aload_n 2, 1) := by decide +kernel
theorem dX3_sell_24 : decode cX3_sell 24 = .ok (.invokevirtual 52, 3) := by decide +kernel
theorem dX3_sell_27 : decode cX3_sell 27 = .ok (.ifCond .eq 10, 3) := by decide +kernel
theorem dX3_sell_30 : decode cX3_sell 30 = .ok (.aload_n 2, 1) := by decide +kernel
theorem dX3_sell_31 : decode cX3_sell 31 = .ok (.getfield 81, 3) := by decide +kernel
theorem dX3_sell_34 : decode cX3_sell 34 = .ok (.ifCond .ne 13, 3) := by decide +kernel
theorem dX3_sell_37 : decode cX3_sell 37 = .ok (.new 34, 3) := by decide +kernel
theorem dX3_sell_40 : decode cX3_sell 40 = .ok (.dup, 1) := by decide +kernel
theorem dX3_sell_41 : decode cX3_sell 41 = .ok (.ldc 84, 2) := by decide +kernel
theorem dX3_sell_43 : decode cX3_sell 43 = .ok (.invokespecial 38, 3) := by decide +kernel
theorem dX3_sell_46 : decode cX3_sell 46 = .ok (.athrow, 1) := by decide +kernel
theorem dX3_sell_47 : decode cX3_sell 47 = .ok (.aload_n 2, 1) := by decide +kernel
theorem dX3_sell_48 : decode cX3_sell 48 = .ok (.getfield 81, 3) := by decide +kernel
theorem dX3_sell_51 : decode cX3_sell 51 = .ok (.aload_n 0, 1) := by decide +kernel
theorem dX3_sell_52 : decode cX3_sell 52 = .ok (.getfield 12, 3) := by decide +kernel
theorem dX3_sell_55 : decode cX3_sell 55 = .ok (.invokevirtual 86, 3) := by decide +kernel
theorem dX3_sell_58 : decode cX3_sell 58 = .ok (.invokestatic 90, 3) := by decide +kernel
theorem dX3_sell_61 : decode cX3_sell 61 = .ok (.istore_n 3, 1) := by decide +kernel
theorem dX3_sell_62 : decode cX3_sell 62 = .ok (.aload_n 2, 1) := by decide +kernel
theorem dX3_sell_63 : decode cX3_sell 63 = .ok (.iconst 0, 1) := by decide +kernel
theorem dX3_sell_64 : decode cX3_sell 64 = .ok (.putfield 81, 3) := by decide +kernel
theorem dX3_sell_67 : decode cX3_sell 67 = .ok (.aload_n 2, 1) := by decide +kernel
theorem dX3_sell_68 : decode cX3_sell 68 = .ok (.dup, 1) := by decide +kernel
theorem dX3_sell_69 : decode cX3_sell 69 = .ok (.getfield 69, 3) := by decide +kernel
theorem dX3_sell_72 : decode cX3_sell 72 = .ok (.iload_n 3, 1) := by decide +kernel
theorem dX3_sell_73 : decode cX3_sell 73 = .ok (.iadd, 1) := by decide +kernel
theorem dX3_sell_74 : decode cX3_sell 74 = .ok (.putfield 69, 3) := by decide +kernel
theorem dX3_sell_77 : decode cX3_sell 77 = .ok (.iload_n 3, 1) := by decide +kernel
theorem dX3_sell_78 : decode cX3_sell 78 = .ok (.ireturn, 1) := by decide +kernel
set_option maxRecDepth 20000 in
theorem ggX3_setRun_X3_isWithin : GoodIn wsX3_setRun wsX3_isWithin := goodIn_r _ [9] (by decide +kernel) (by decide +kernel)
set_option maxRecDepth 20000 in
theorem gX3_setRun_X3_isWithin : GoodIn wsX3_setRun (va_wsS RX3 19 yX3_isWithin wsX3_isWithin) := goodIn_app (goodIn_of _ (by decide +kernel)) ggX3_setRun_X3_isWithin
set_option maxRecDepth 20000 in
theorem ggX3_setRun_X1_tableEels : GoodIn wsX3_setRun wsX1_tableEels := goodIn_r _ [14, 15, 22, 23, 24, 25, 26, 27, 28, 29, 30, 31] (by decide +kernel) (by decide +kernel)
set_option maxRecDepth 20000 in
theorem gX3_setRun_X1_tableEels : GoodIn wsX3_setRun (wsV RX3 98 RX1 yX1_tableEels wsX1_tableEels) := goodIn_app (goodIn_of _ (by decide +kernel)) ggX3_setRun_X1_tableEels
set_option maxRecDepth 20000 in
theorem ggX3_setRun_X1_setTableEels : GoodIn wsX3_setRun wsX1_setTableEels := goodIn_r _ [19, 15, 22, 23, 24, 25, 26, 27, 28, 29, 30, 31] (by decide +kernel) (by decide +kernel)
set_option maxRecDepth 20000 in
theorem gX3_setRun_X1_setTableEels : GoodIn wsX3_setRun (wsV RX3 102 RX1 yX1_setTableEels wsX1_setTableEels) := goodIn_app (goodIn_of _ (by decide +kernel)) ggX3_setRun_X1_setTableEels
theorem dX3_setRun_0 : decode cX3_setRun 0 = .ok (.iload_n 1, 1) := by decide +kernel
theorem dX3_setRun_1 : decode cX3_setRun 1 = .ok (.iconst 0, 1) := by decide +kernel
theorem dX3_setRun_2 : decode cX3_setRun 2 = .ok (.bipush 6, 2) := by decide +kernel
theorem dX3_setRun_4 : decode cX3_setRun 4 = .ok (.invokestatic 19, 3) := by decide +kernel
theorem dX3_setRun_7 : decode cX3_setRun 7 = .ok (.ifCond .ne 13, 3) := by decide +kernel
theorem dX3_setRun_10 : decode cX3_setRun 10 = .ok (.new 47, 3) := by decide +kernel
theorem dX3_setRun_13 : decode cX3_setRun 13 = .ok (.dup, 1) := by decide +kernel
theorem dX3_setRun_14 : decode cX3_setRun 14 = .ok (.ldc 94, 2) := by decide +kernel
theorem dX3_setRun_16 : decode cX3_setRun 16 = .ok (.invokespecial 51, 3) := by decide +kernel
theorem dX3_setRun_19 : decode cX3_setRun 19 = .ok (.athrow, 1) := by decide +kernel
theorem dX3_setRun_20 : decode cX3_setRun 20 = .ok (.iload_n 2, 1) := by decide +kernel
theorem dX3_setRun_21 : decode cX3_setRun 21 = .ok (.iconst 0, 1) := by decide +kernel
theorem dX3_setRun_22 : decode cX3_setRun 22 = .ok (.bipush 99, 2) := by decide +kernel
theorem dX3_setRun_24 : decode cX3_setRun 24 = .ok (.invokestatic 19, 3) := by decide +kernel
theorem dX3_setRun_27 : decode cX3_setRun 27 = .ok (.ifCond .ne 13, 3) := by decide +kernel
theorem dX3_setRun_30 : decode cX3_setRun 30 = .ok (.new 23, 3) := by decide +kernel
theorem dX3_setRun_33 : decode cX3_setRun 33 = .ok (.dup, 1) := by decide +kernel
theorem dX3_setRun_34 : decode cX3_setRun 34 = .ok (.ldc 96, 2) := by decide +kernel
theorem dX3_setRun_36 : decode cX3_setRun 36 = .ok (.invokespecial 27, 3) := by decide +kernel
theorem dX3_setRun_39 : decode cX3_setRun 39 = .ok (.athrow, 1) := by decide +kernel
theorem dX3_setRun_40 : decode cX3_setRun 40 = .ok (.aload_n 0, 1) := by decide +kernel
theorem dX3_setRun_41 : decode cX3_setRun 41 = .ok (.getfield 12, 3) := by decide +kernel
theorem dX3_setRun_44 : decode cX3_setRun 44 = .ok (.iload_n 1, 1) := by decide +kernel
theorem dX3_setRun_45 : decode cX3_setRun 45 = .ok (.invokevirtual 98, 3) := by decide +kernel
theorem dX3_setRun_48 : decode cX3_setRun 48 = .ok (.istore_n 3, 1) := by decide +kernel
theorem dX3_setRun_49 : decode cX3_setRun 49 = .ok (.aload_n 0, 1) := by decide +kernel
theorem dX3_setRun_50 : decode cX3_setRun 50 = .ok (.getfield 12, 3) := by decide +kernel
theorem dX3_setRun_53 : decode cX3_setRun 53 = .ok (.iload_n 1, 1) := by decide +kernel
theorem dX3_setRun_54 : decode cX3_setRun 54 = .ok (.iload_n 2, 1) := by decide +kernel
theorem dX3_setRun_55 : decode cX3_setRun 55 = .ok (.invokevirtual 102, 3) := by decide +kernel
theorem dX3_setRun_58 : decode cX3_setRun 58 = .ok (.iload_n 3, 1) := by decide +kernel
theorem dX3_setRun_59 : decode cX3_setRun 59 = .ok (.ireturn, 1) := by decide +kernel
set_option maxRecDepth 20000 in
theorem ggX3_barge_X3_isWithin : GoodIn wsX3_barge wsX3_isWithin := goodIn_r _ [10] (by decide +kernel) (by decide +kernel)
set_option maxRecDepth 20000 in
theorem gX3_barge_X3_isWithin : GoodIn wsX3_barge (va_wsS RX3 19 yX3_isWithin wsX3_isWithin) := goodIn_app (goodIn_of _ (by decide +kernel)) ggX3_barge_X3_isWithin
set_option maxRecDepth 20000 in
theorem ggX3_barge_X1_addBarge : GoodIn wsX3_barge wsX1_addBarge := goodIn_r _ [15, 16, 17, 18, 19, 20, 14, 21, 22, 23, 24, 25, 26, 27, 28, 29, 30, 31, 34, 35, 36, 37, 38, 39, 40, 41, 42, 43, 44, 45, 46, 47] (by decide +kernel) (by decide +kernel)
set_option maxRecDepth 20000 in
theorem gX3_barge_X1_addBarge : GoodIn wsX3_barge (wsV RX3 113 RX1 yX1_addBarge wsX1_addBarge) := goodIn_app (goodIn_of _ (by decide +kernel)) ggX3_barge_X1_addBarge
theorem dX3_barge_0 : decode cX3_barge 0 = .ok (.iload_n 1, 1) := by decide +kernel
theorem dX3_barge_1 : decode cX3_barge 1 = .ok (.iconst 1, 1) := by decide +kernel
theorem dX3_barge_2 : decode cX3_barge 2 = .ok (.bipush 20, 2) := by decide +kernel
theorem dX3_barge_4 : decode cX3_barge 4 = .ok (.invokestatic 19, 3) := by decide +kernel
theorem dX3_barge_7 : decode cX3_barge 7 = .ok (.ifCond .ne 13, 3) := by decide +kernel
theorem dX3_barge_10 : decode cX3_barge 10 = .ok (.new 23, 3) := by decide +kernel
theorem dX3_barge_13 : decode cX3_barge 13 = .ok (.dup, 1) := by decide +kernel
theorem dX3_barge_14 : decode cX3_barge 14 = .ok (.ldc 106, 2) := by decide +kernel
theorem dX3_barge_16 : decode cX3_barge 16 = .ok (.invokespecial 27, 3) := by decide +kernel
theorem dX3_barge_19 : decode cX3_barge 19 = .ok (.athrow, 1) := by decide +kernel
theorem dX3_barge_20 : decode cX3_barge 20 = .ok (.aload_n 0, 1) := by decide +kernel
theorem dX3_barge_21 : decode cX3_barge 21 = .ok (.getfield 12, 3) := by decide +kernel
theorem dX3_barge_24 : decode cX3_barge 24 = .ok (.getfield 108, 3) := by decide +kernel
theorem dX3_barge_27 : decode cX3_barge 27 = .ok (.iconst 5, 1) := by decide +kernel
theorem dX3_barge_28 : decode cX3_barge 28 = .ok (.if_icmp .lt 13, 3) := by decide +kernel
theorem dX3_barge_31 : decode cX3_barge 31 = .ok (.new 34, 3) := by decide +kernel
theorem dX3_barge_34 : decode cX3_barge 34 = .ok (.dup, 1) := by decide +kernel
theorem dX3_barge_35 : decode cX3_barge 35 = .ok (.ldc 111, 2) := by decide +kernel
theorem dX3_barge_37 : decode cX3_barge 37 = .ok (.invokespecial 38, 3) := by decide +kernel
theorem dX3_barge_40 : decode cX3_barge 40 = .ok (.athrow, 1) := by decide +kernel
theorem dX3_barge_41 : decode cX3_barge 41 = .ok (.aload_n 0, 1) := by decide +kernel
theorem dX3_barge_42 : decode cX3_barge 42 = .ok (.getfield 12, 3) := by decide +kernel
theorem dX3_barge_45 : decode cX3_barge 45 = .ok (.iload_n 1, 1) := by decide +kernel
theorem dX3_barge_46 : decode cX3_barge 46 = .ok (.invokevirtual 113, 3) := by decide +kernel
theorem dX3_barge_49 : decode cX3_barge 49 = .ok (.ireturn, 1) := by decide +kernel
set_option maxRecDepth 20000 in
theorem ggX3_about_X1_weirAt : GoodIn wsX3_about wsX1_weirAt := goodIn_r _ [8, 9, 10, 30, 31, 32, 33, 34, 35, 36, 37, 38, 39] (by decide +kernel) (by decide +kernel)
set_option maxRecDepth 20000 in
theorem gX3_about_X1_weirAt : GoodIn wsX3_about (wsV RX3 43 RX1 yX1_weirAt wsX1_weirAt) := goodIn_app (goodIn_of _ (by decide +kernel)) ggX3_about_X1_weirAt
set_option maxRecDepth 20000 in
theorem ggX3_about_X3_isWithin : GoodIn wsX3_about wsX3_isWithin := goodIn_r _ [14] (by decide +kernel) (by decide +kernel)
set_option maxRecDepth 20000 in
theorem gX3_about_X3_isWithin : GoodIn wsX3_about (va_wsS RX3 19 yX3_isWithin wsX3_isWithin) := goodIn_app (goodIn_of _ (by decide +kernel)) ggX3_about_X3_isWithin
set_option maxRecDepth 20000 in
theorem ggX3_about_X2_fact : GoodIn wsX3_about wsX2_fact := goodIn_r _ [19, 20, 21, 22, 23, 24, 25, 26, 27, 40, 41, 42, 43, 44, 45, 46, 47] (by decide +kernel) (by decide +kernel)
set_option maxRecDepth 20000 in
theorem gX3_about_X2_fact : GoodIn wsX3_about (wsV RX3 118 RX2 yX2_fact wsX2_fact) := goodIn_app (goodIn_of _ (by decide +kernel)) ggX3_about_X2_fact
theorem dX3_about_0 : decode cX3_about 0 = .ok (.aload_n 0, 1) := by decide +kernel
theorem dX3_about_1 : decode cX3_about 1 = .ok (.getfield 12, 3) := by decide +kernel
theorem dX3_about_4 : decode cX3_about 4 = .ok (.iload_n 1, 1) := by decide +kernel
theorem dX3_about_5 : decode cX3_about 5 = .ok (.invokevirtual 43, 3) := by decide +kernel
theorem dX3_about_8 : decode cX3_about 8 = .ok (.astore_n 3, 1) := by decide +kernel
theorem dX3_about_9 : decode cX3_about 9 = .ok (.aload_n 3, 1) := by decide +kernel
theorem dX3_about_10 : decode cX3_about 10 = .ok (.ifnull 13, 3) := by decide +kernel
theorem dX3_about_13 : decode cX3_about 13 = .ok (.iload_n 2, 1) := by decide +kernel
theorem dX3_about_14 : decode cX3_about 14 = .ok (.iconst 0, 1) := by decide +kernel
theorem dX3_about_15 : decode cX3_about 15 = .ok (.bipush 7, 2) := by decide +kernel
theorem dX3_about_17 : decode cX3_about 17 = .ok (.invokestatic 19, 3) := by decide +kernel
theorem dX3_about_20 : decode cX3_about 20 = .ok (.ifCond .ne 13, 3) := by decide +kernel
theorem dX3_about_23 : decode cX3_about 23 = .ok (.new 47, 3) := by decide +kernel
theorem dX3_about_26 : decode cX3_about 26 = .ok (.dup, 1) := by decide +kernel
theorem dX3_about_27 : decode cX3_about 27 = .ok (.ldc 116, 2) := by decide +kernel
theorem dX3_about_29 : decode cX3_about 29 = .ok (.invokespecial 51, 3) := by decide +kernel
theorem dX3_about_32 : decode cX3_about 32 = .ok (.athrow, 1) := by decide +kernel
theorem dX3_about_33 : decode cX3_about 33 = .ok (.aload_n 3, 1) := by decide +kernel
theorem dX3_about_34 : decode cX3_about 34 = .ok (.iload_n 2, 1) := by decide +kernel
theorem dX3_about_35 : decode cX3_about 35 = .ok (.invokevirtual 118, 3) := by decide +kernel
theorem dX3_about_38 : decode cX3_about 38 = .ok (.ireturn, 1) := by decide +kernel
set_option maxRecDepth 20000 in
theorem ggX3_told_X1_bargeAt : GoodIn wsX3_told wsX1_bargeAt := goodIn_r _ [8, 9, 10, 47, 48, 49, 50, 51, 52, 53, 54, 55, 56] (by decide +kernel) (by decide +kernel)
set_option maxRecDepth 20000 in
theorem gX3_told_X1_bargeAt : GoodIn wsX3_told (wsV RX3 121 RX1 yX1_bargeAt wsX1_bargeAt) := goodIn_app (goodIn_of _ (by decide +kernel)) ggX3_told_X1_bargeAt
set_option maxRecDepth 20000 in
theorem ggX3_told_X3_isWithin : GoodIn wsX3_told wsX3_isWithin := goodIn_r _ [14] (by decide +kernel) (by decide +kernel)
set_option maxRecDepth 20000 in
theorem gX3_told_X3_isWithin : GoodIn wsX3_told (va_wsS RX3 19 yX3_isWithin wsX3_isWithin) := goodIn_app (goodIn_of _ (by decide +kernel)) ggX3_told_X3_isWithin
set_option maxRecDepth 20000 in
theorem ggX3_told_X1_bargeFact : GoodIn wsX3_told wsX1_bargeFact := goodIn_r _ [18, 19, 20, 21, 22, 23, 24, 7, 25, 26, 27, 28, 29, 30, 31, 32, 33, 34, 35, 36, 37, 38, 39, 40, 41, 42, 43, 44, 57, 58, 59, 60, 47, 48, 49, 50, 51, 52, 53, 54, 55, 56, 61, 62, 63, 64, 65, 66, 67, 68] (by decide +kernel) (by decide +kernel)
set_option maxRecDepth 20000 in
theorem gX3_told_X1_bargeFact : GoodIn wsX3_told (wsV RX3 127 RX1 yX1_bargeFact wsX1_bargeFact) := goodIn_app (goodIn_of _ (by decide +kernel)) ggX3_told_X1_bargeFact
theorem dX3_told_0 : decode cX3_told 0 = .ok (.aload_n 0, 1) := by decide +kernel
theorem dX3_told_1 : decode cX3_told 1 = .ok (.getfield 12, 3) := by decide +kernel
theorem dX3_told_4 : decode cX3_told 4 = .ok (.iload_n 1, 1) := by decide +kernel
theorem dX3_told_5 : decode cX3_told 5 = .ok (.invokevirtual 121, 3) := by decide +kernel
theorem dX3_told_8 : decode cX3_told 8 = .ok (.astore_n 3, 1) := by decide +kernel
theorem dX3_told_9 : decode cX3_told 9 = .ok (.aload_n 3, 1) := by decide +kernel
theorem dX3_told_10 : decode cX3_told 10 = .ok (.ifnull 12, 3) := by decide +kernel
theorem dX3_told_13 : decode cX3_told 13 = .ok (.iload_n 2, 1) := by decide +kernel
theorem dX3_told_14 : decode cX3_told 14 = .ok (.iconst 0, 1) := by decide +kernel
theorem dX3_told_15 : decode cX3_told 15 = .ok (.iconst 3, 1) := by decide +kernel
theorem dX3_told_16 : decode cX3_told 16 = .ok (.invokestatic 19, 3) := by decide +kernel
theorem dX3_told_19 : decode cX3_told 19 = .ok (.ifCond .ne 13, 3) := by decide +kernel
theorem dX3_told_22 : decode cX3_told 22 = .ok (.new 47, 3) := by decide +kernel
theorem dX3_told_25 : decode cX3_told 25 = .ok (.dup, 1) := by decide +kernel
theorem dX3_told_26 : decode cX3_told 26 = .ok (.ldc 125, 2) := by decide +kernel
theorem dX3_told_28 : decode cX3_told 28 = .ok (.invokespecial 51, 3) := by decide +kernel
theorem dX3_told_31 : decode cX3_told 31 = .ok (.athrow, 1) := by decide +kernel
theorem dX3_told_32 : decode cX3_told 32 = .ok (.aload_n 0, 1) := by decide +kernel
theorem dX3_told_33 : decode cX3_told 33 = .ok (.getfield 12, 3) := by decide +kernel
theorem dX3_told_36 : decode cX3_told 36 = .ok (.aload_n 3, 1) := by decide +kernel
theorem dX3_told_37 : decode cX3_told 37 = .ok (.iload_n 2, 1) := by decide +kernel
theorem dX3_told_38 : decode cX3_told 38 = .ok (.invokevirtual 127, 3) := by decide +kernel
theorem dX3_told_41 : decode cX3_told 41 = .ok (.ireturn, 1) := by decide +kernel
set_option maxRecDepth 20000 in
theorem ggX3_count_X3_isWithin : GoodIn wsX3_count wsX3_isWithin := goodIn_r _ [7] (by decide +kernel) (by decide +kernel)
set_option maxRecDepth 20000 in
theorem gX3_count_X3_isWithin : GoodIn wsX3_count (va_wsS RX3 19 yX3_isWithin wsX3_isWithin) := goodIn_app (goodIn_of _ (by decide +kernel)) ggX3_count_X3_isWithin
set_option maxRecDepth 20000 in
theorem ggX3_count_X1_fact : GoodIn wsX3_count wsX1_fact := goodIn_r _ [12, 13, 14, 15, 16, 17, 18, 19, 20, 21, 11, 22, 23, 24, 25, 26, 27, 28, 29, 30, 31, 32, 33, 34, 35, 36, 37, 38, 39, 40, 41, 42, 43, 44, 45, 46, 47, 48, 49, 50, 51, 52, 53, 54, 55, 58, 59, 60, 61, 62, 63, 64, 65, 66, 67, 68, 69, 70, 71, 72, 73, 74, 75] (by decide +kernel) (by decide +kernel)
set_option maxRecDepth 20000 in
theorem gX3_count_X1_fact : GoodIn wsX3_count (wsV RX3 133 RX1 yX1_fact wsX1_fact) := goodIn_app (goodIn_of _ (by decide +kernel)) ggX3_count_X1_fact
theorem dX3_count_0 : decode cX3_count 0 = .ok (.iload_n 1, 1) := by decide +kernel
theorem dX3_count_1 : decode cX3_count 1 = .ok (.iconst 0, 1) := by decide +kernel
theorem dX3_count_2 : decode cX3_count 2 = .ok (.bipush 9, 2) := by decide +kernel
theorem dX3_count_4 : decode cX3_count 4 = .ok (.invokestatic 19, 3) := by decide +kernel
theorem dX3_count_7 : decode cX3_count 7 = .ok (.ifCond .ne 13, 3) := by decide +kernel
theorem dX3_count_10 : decode cX3_count 10 = .ok (.new 47, 3) := by decide +kernel
theorem dX3_count_13 : decode cX3_count 13 = .ok (.dup, 1) := by decide +kernel
theorem dX3_count_14 : decode cX3_count 14 = .ok (.ldc 131, 2) := by decide +kernel
theorem dX3_count_16 : decode cX3_count 16 = .ok (.invokespecial 51, 3) := by decide +kernel
theorem dX3_count_19 : decode cX3_count 19 = .ok (.athrow, 1) := by decide +kernel
theorem dX3_count_20 : decode cX3_count 20 = .ok (.aload_n 0, 1) := by decide +kernel
theorem dX3_count_21 : decode cX3_count 21 = .ok (.getfield 12, 3) := by decide +kernel
theorem dX3_count_24 : decode cX3_count 24 = .ok (.iload_n 1, 1) := by decide +kernel
theorem dX3_count_25 : decode cX3_count 25 = .ok (.invokevirtual 133, 3) := by decide +kernel
theorem dX3_count_28 : decode cX3_count 28 = .ok (.ireturn, 1) := by decide +kernel
set_option maxRecDepth 20000 in
theorem ggX3_hinders_X3_isWithin : GoodIn wsX3_hinders wsX3_isWithin := goodIn_r _ [7] (by decide +kernel) (by decide +kernel)
set_option maxRecDepth 20000 in
theorem gX3_hinders_X3_isWithin : GoodIn wsX3_hinders (va_wsS RX3 19 yX3_isWithin wsX3_isWithin) := goodIn_app (goodIn_of _ (by decide +kernel)) ggX3_hinders_X3_isWithin
set_option maxRecDepth 20000 in
theorem ggX3_hinders_X1_weirsInWay : GoodIn wsX3_hinders wsX1_weirsInWay := goodIn_r _ [12, 13, 14, 15, 16, 11, 17, 18, 19, 20, 21, 22, 23, 24, 25, 26, 27, 28, 29, 30, 33, 34, 35, 36, 37, 38, 39, 40, 41, 42, 43, 44, 45, 46, 47, 48, 49, 50] (by decide +kernel) (by decide +kernel)
set_option maxRecDepth 20000 in
theorem gX3_hinders_X1_weirsInWay : GoodIn wsX3_hinders (wsV RX3 134 RX1 yX1_weirsInWay wsX1_weirsInWay) := goodIn_app (goodIn_of _ (by decide +kernel)) ggX3_hinders_X1_weirsInWay
theorem dX3_hinders_0 : decode cX3_hinders 0 = .ok (.iload_n 1, 1) := by decide +kernel
theorem dX3_hinders_1 : decode cX3_hinders 1 = .ok (.iconst 1, 1) := by decide +kernel
theorem dX3_hinders_2 : decode cX3_hinders 2 = .ok (.bipush 20, 2) := by decide +kernel
theorem dX3_hinders_4 : decode cX3_hinders 4 = .ok (.invokestatic 19, 3) := by decide +kernel
theorem dX3_hinders_7 : decode cX3_hinders 7 = .ok (.ifCond .ne 13, 3) := by decide +kernel
theorem dX3_hinders_10 : decode cX3_hinders 10 = .ok (.new 23, 3) := by decide +kernel
theorem dX3_hinders_13 : decode cX3_hinders 13 = .ok (.dup, 1) := by decide +kernel
theorem dX3_hinders_14 : decode cX3_hinders 14 = .ok (.ldc 106, 2) := by decide +kernel
theorem dX3_hinders_16 : decode cX3_hinders 16 = .ok (.invokespecial 27, 3) := by decide +kernel
theorem dX3_hinders_19 : decode cX3_hinders 19 = .ok (.athrow, 1) := by decide +kernel
theorem dX3_hinders_20 : decode cX3_hinders 20 = .ok (.aload_n 0, 1) := by decide +kernel
theorem dX3_hinders_21 : decode cX3_hinders 21 = .ok (.getfield 12, 3) := by decide +kernel
theorem dX3_hinders_24 : decode cX3_hinders 24 = .ok (.iload_n 1, 1) := by decide +kernel
theorem dX3_hinders_25 : decode cX3_hinders 25 = .ok (.invokevirtual 134, 3) := by decide +kernel
theorem dX3_hinders_28 : decode cX3_hinders 28 = .ok (.ireturn, 1) := by decide +kernel
set_option maxRecDepth 20000 in
theorem ggX3_richest_X1_richestHeld : GoodIn wsX3_richest wsX1_richestHeld := goodIn_r _ [6, 7, 8, 9, 10, 11, 5, 12, 13, 14, 15, 16, 17, 18, 19, 22, 23, 24, 25, 26, 27, 28, 29, 30, 31, 32, 33, 34, 35, 36, 37, 38, 39] (by decide +kernel) (by decide +kernel)
set_option maxRecDepth 20000 in
theorem gX3_richest_X1_richestHeld : GoodIn wsX3_richest (wsV RX3 137 RX1 yX1_richestHeld wsX1_richestHeld) := goodIn_app (goodIn_of _ (by decide +kernel)) ggX3_richest_X1_richestHeld
theorem dX3_richest_0 : decode cX3_richest 0 = .ok (.aload_n 0, 1) := by decide +kernel
theorem dX3_richest_1 : decode cX3_richest 1 = .ok (.getfield 12, 3) := by decide +kernel
theorem dX3_richest_4 : decode cX3_richest 4 = .ok (.invokevirtual 137, 3) := by decide +kernel
theorem dX3_richest_7 : decode cX3_richest 7 = .ok (.ireturn, 1) := by decide +kernel
set_option maxRecDepth 20000 in
theorem ggX3_pass_X3_isWithin : GoodIn wsX3_pass wsX3_isWithin := goodIn_r _ [8] (by decide +kernel) (by decide +kernel)
set_option maxRecDepth 20000 in
theorem gX3_pass_X3_isWithin : GoodIn wsX3_pass (va_wsS RX3 19 yX3_isWithin wsX3_isWithin) := goodIn_app (goodIn_of _ (by decide +kernel)) ggX3_pass_X3_isWithin
set_option maxRecDepth 20000 in
theorem ggX3_pass_X1_goThroughNights : GoodIn wsX3_pass wsX1_goThroughNights := goodIn_r _ [13, 14, 15, 16, 17, 12, 18, 19, 20, 21, 22, 23, 24, 25, 26, 27, 28, 29, 30, 31, 32, 33, 34, 35, 36, 37, 38, 39, 40, 41, 42, 43, 44, 45, 46, 47, 48, 49, 50, 51, 52, 53, 54, 55, 56, 57, 58, 59, 60, 61, 62, 63, 64, 65, 66, 67, 68, 69, 70, 71, 72, 73, 74, 75, 76, 77, 78, 79, 80, 81, 82, 83, 84, 85, 86, 87, 88, 89, 90, 91, 92, 93, 94, 95, 96, 97, 98, 99, 100, 101, 102, 103, 104, 105, 106, 107, 108, 109, 110, 111, 112, 113, 114, 115, 116, 117, 118, 119, 120, 121, 122, 123, 124, 125, 126, 127, 128, 129, 130, 131, 132, 133, 134, 135, 136, 137, 138, 139, 140, 141, 142, 145, 146, 147, 148, 149, 150, 151, 152, 153, 154, 155, 156, 157, 158, 159, 160, 161, 162, 163, 164, 165, 166] (by decide +kernel) (by decide +kernel)
set_option maxRecDepth 20000 in
theorem gX3_pass_X1_goThroughNights : GoodIn wsX3_pass (wsV RX3 145 RX1 yX1_goThroughNights wsX1_goThroughNights) := goodIn_app (goodIn_of _ (by decide +kernel)) ggX3_pass_X1_goThroughNights
theorem dX3_pass_0 : decode cX3_pass 0 = .ok (.iload_n 1, 1) := by decide +kernel
theorem dX3_pass_1 : decode cX3_pass 1 = .ok (.iconst 1, 1) := by decide +kernel
theorem dX3_pass_2 : decode cX3_pass 2 = .ok (.bipush 60, 2) := by decide +kernel
theorem dX3_pass_4 : decode cX3_pass 4 = .ok (.invokestatic 19, 3) := by decide +kernel
theorem dX3_pass_7 : decode cX3_pass 7 = .ok (.ifCond .ne 13, 3) := by decide +kernel
theorem dX3_pass_10 : decode cX3_pass 10 = .ok (.new 23, 3) := by decide +kernel
theorem dX3_pass_13 : decode cX3_pass 13 = .ok (.dup, 1) := by decide +kernel
theorem dX3_pass_14 : decode cX3_pass 14 = .ok (.ldc 140, 2) := by decide +kernel
theorem dX3_pass_16 : decode cX3_pass 16 = .ok (.invokespecial 27, 3) := by decide +kernel
theorem dX3_pass_19 : decode cX3_pass 19 = .ok (.athrow, 1) := by decide +kernel
theorem dX3_pass_20 : decode cX3_pass 20 = .ok (.aload_n 0, 1) := by decide +kernel
theorem dX3_pass_21 : decode cX3_pass 21 = .ok (.getfield 12, 3) := by decide +kernel
theorem dX3_pass_24 : decode cX3_pass 24 = .ok (.getfield 142, 3) := by decide +kernel
theorem dX3_pass_27 : decode cX3_pass 27 = .ok (.istore_n 2, 1) := by decide +kernel
theorem dX3_pass_28 : decode cX3_pass 28 = .ok (.aload_n 0, 1) := by decide +kernel
theorem dX3_pass_29 : decode cX3_pass 29 = .ok (.getfield 12, 3) := by decide +kernel
theorem dX3_pass_32 : decode cX3_pass 32 = .ok (.iload_n 1, 1) := by decide +kernel
theorem dX3_pass_33 : decode cX3_pass 33 = .ok (.invokevirtual 145, 3) := by decide +kernel
theorem dX3_pass_36 : decode cX3_pass 36 = .ok (.aload_n 0, 1) := by decide +kernel
theorem dX3_pass_37 : decode cX3_pass 37 = .ok (.getfield 12, 3) := by decide +kernel
theorem dX3_pass_40 : decode cX3_pass 40 = .ok (.getfield 142, 3) := by decide +kernel
theorem dX3_pass_43 : decode cX3_pass 43 = .ok (.iload_n 2, 1) := by decide +kernel
theorem dX3_pass_44 : decode cX3_pass 44 = .ok (.isub, 1) := by decide +kernel
theorem dX3_pass_45 : decode cX3_pass 45 = .ok (.ireturn, 1) := by decide +kernel
set_option maxRecDepth 20000 in
theorem ggX3_catches_X1_weirAt : GoodIn wsX3_catches wsX1_weirAt := goodIn_r _ [10, 11, 12, 104, 105, 106, 107, 108, 109, 110, 111, 112, 113] (by decide +kernel) (by decide +kernel)
set_option maxRecDepth 20000 in
theorem gX3_catches_X1_weirAt : GoodIn wsX3_catches (wsV RX3 43 RX1 yX1_weirAt wsX1_weirAt) := goodIn_app (goodIn_of _ (by decide +kernel)) ggX3_catches_X1_weirAt
set_option maxRecDepth 20000 in
theorem ggX3_catches_X1_copyFrom : GoodIn wsX3_catches wsX1_copyFrom := goodIn_r _ [16, 17, 18, 11, 19, 20, 21, 22, 23, 24, 25, 26, 9, 27, 28, 29, 30, 31, 32, 7, 8, 10, 12, 33, 34, 35, 36, 37, 38, 39, 40, 41, 42, 43, 44, 45, 46, 47, 48, 49, 50, 51, 52, 53, 54, 55, 56, 57, 58, 59, 60, 61, 62, 63, 64, 65, 104, 105, 106, 107, 108, 109, 110, 111, 112, 113, 96, 97, 98, 99, 100, 101, 102, 103, 114, 115, 116, 117] (by decide +kernel) (by decide +kernel)
set_option maxRecDepth 20000 in
theorem gX3_catches_X1_copyFrom : GoodIn wsX3_catches (wsV RX3 149 RX1 yX1_copyFrom wsX1_copyFrom) := goodIn_app (goodIn_of _ (by decide +kernel)) ggX3_catches_X1_copyFrom
set_option maxRecDepth 20000 in
theorem ggX3_catches_X1_catchEels : GoodIn wsX3_catches wsX1_catchEels := goodIn_r _ [69, 11, 70, 71, 72, 9, 73, 20, 74, 75, 76, 77, 24, 25, 26, 27, 17, 78, 79, 80, 81, 28, 29, 30, 31, 18, 32, 7, 8, 10, 12, 82, 83, 84, 39, 85, 48, 47, 86, 87, 88, 89, 42, 43, 46, 90, 91, 92, 93, 104, 105, 106, 107, 108, 109, 110, 111, 112, 113, 96, 97, 98, 99, 100, 101, 102, 103] (by decide +kernel) (by decide +kernel)
set_option maxRecDepth 20000 in
theorem gX3_catches_X1_catchEels : GoodIn wsX3_catches (wsV RX3 153 RX1 yX1_catchEels wsX1_catchEels) := goodIn_app (goodIn_of _ (by decide +kernel)) ggX3_catches_X1_catchEels
theorem dX3_catches_0 : decode cX3_catches 0 = .ok (.aload_n 0, 1) := by decide +kernel
theorem dX3_catches_1 : decode cX3_catches 1 = .ok (.getfield 12, 3) := by decide +kernel
theorem dX3_catches_4 : decode cX3_catches 4 = .ok (.iload_n 1, 1) := by decide +kernel
theorem dX3_catches_5 : decode cX3_catches 5 = .ok (.invokevirtual 43, 3) := by decide +kernel
theorem dX3_catches_8 : decode cX3_catches 8 = .ok (.astore_n 2, 1) := by decide +kernel
theorem dX3_catches_9 : decode cX3_catches 9 = .ok (.aload_n 2, 1) := by decide +kernel
theorem dX3_catches_10 : decode cX3_catches 10 = .ok (.ifnonnull 13, 3) := by decide +kernel
theorem dX3_catches_13 : decode cX3_catches 13 = .ok (.new 47, 3) := by decide +kernel
theorem dX3_catches_16 : decode cX3_catches 16 = .ok (.dup, 1) := by decide +kernel
theorem dX3_catches_17 : decode cX3_catches 17 = .ok (.ldc 49, 2) := by decide +kernel
theorem dX3_catches_19 : decode cX3_catches 19 = .ok (.invokespecial 51, 3) := by decide +kernel
theorem dX3_catches_22 : decode cX3_catches 22 = .ok (.athrow, 1) := by decide +kernel
theorem dX3_catches_23 : decode cX3_catches 23 = .ok (.aload_n 0, 1) := by decide +kernel
theorem dX3_catches_24 : decode cX3_catches 24 = .ok (.getfield 16, 3) := by decide +kernel
theorem dX3_catches_27 : decode cX3_catches 27 = .ok (.aload_n 0, 1) := by decide +kernel
theorem dX3_catches_28 : decode cX3_catches 28 = .ok (.getfield 12, 3) := by decide +kernel
theorem dX3_catches_31 : decode cX3_catches 31 = .ok (.invokevirtual 149, 3) := by decide +kernel
theorem dX3_catches_34 : decode cX3_catches 34 = .ok (.aload_n 0, 1) := by decide +kernel
theorem dX3_catches_35 : decode cX3_catches 35 = .ok (.getfield 16, 3) := by decide +kernel
theorem dX3_catches_38 : decode cX3_catches 38 = .ok (.invokevirtual 153, 3) := by decide +kernel
theorem dX3_catches_41 : decode cX3_catches 41 = .ok (.aload_n 0, 1) := by decide +kernel
theorem dX3_catches_42 : decode cX3_catches 42 = .ok (.getfield 16, 3) := by decide +kernel
theorem dX3_catches_45 : decode cX3_catches 45 = .ok (.iload_n 1, 1) := by decide +kernel
theorem dX3_catches_46 : decode cX3_catches 46 = .ok (.invokevirtual 43, 3) := by decide +kernel
theorem dX3_catches_49 : decode cX3_catches 49 = .ok (.astore_n 3, 1) := by decide +kernel
theorem dX3_catches_50 : decode cX3_catches 50 = .ok (.aload_n 3, 1) := by decide +kernel
theorem dX3_catches_51 : decode cX3_catches 51 = .ok (.ifnonnull 7, 3) := by decide +kernel
theorem dX3_catches_54 : decode cX3_catches 54 = .ok (.iconst 0, 1) := by decide +kernel
theorem dX3_catches_55 : decode cX3_catches 55 = .ok (.goto 12, 3) := by decide +kernel
theorem dX3_catches_58 : decode cX3_catches 58 = .ok (.aload_n 3, 1) := by decide +kernel
theorem dX3_catches_59 : decode cX3_catches 59 = .ok (.getfield 81, 3) := by decide +kernel
theorem dX3_catches_62 : decode cX3_catches 62 = .ok (.aload_n 2, 1) := by decide +kernel
theorem dX3_catches_63 : decode cX3_catches 63 = .ok (.getfield 81, 3) := by decide +kernel
theorem dX3_catches_66 : decode cX3_catches 66 = .ok (.isub, 1) := by decide +kernel
theorem dX3_catches_67 : decode cX3_catches 67 = .ok (.ireturn, 1) := by decide +kernel
set_option maxRecDepth 20000 in
theorem ggX3_arrives_X1_bargeAt : GoodIn wsX3_arrives wsX1_bargeAt := goodIn_r _ [10, 11, 12, 164, 165, 166, 167, 168, 169, 170, 171, 172, 173] (by decide +kernel) (by decide +kernel)
set_option maxRecDepth 20000 in
theorem gX3_arrives_X1_bargeAt : GoodIn wsX3_arrives (wsV RX3 121 RX1 yX1_bargeAt wsX1_bargeAt) := goodIn_app (goodIn_of _ (by decide +kernel)) ggX3_arrives_X1_bargeAt
set_option maxRecDepth 20000 in
theorem ggX3_arrives_X1_copyFrom : GoodIn wsX3_arrives wsX1_copyFrom := goodIn_r _ [16, 17, 18, 19, 11, 20, 21, 22, 23, 24, 25, 26, 9, 27, 28, 29, 30, 31, 32, 33, 34, 35, 36, 37, 38, 39, 40, 41, 42, 43, 44, 45, 46, 47, 48, 49, 50, 51, 52, 53, 7, 8, 10, 12, 54, 55, 56, 57, 58, 59, 60, 61, 62, 63, 64, 65, 164, 165, 166, 167, 168, 169, 170, 171, 172, 173, 174, 175, 176, 177, 178, 179, 180, 181, 160, 161, 162, 163] (by decide +kernel) (by decide +kernel)
set_option maxRecDepth 20000 in
theorem gX3_arrives_X1_copyFrom : GoodIn wsX3_arrives (wsV RX3 149 RX1 yX1_copyFrom wsX1_copyFrom) := goodIn_app (goodIn_of _ (by decide +kernel)) ggX3_arrives_X1_copyFrom
set_option maxRecDepth 20000 in
theorem ggX3_arrives_X1_isUnderWay : GoodIn wsX3_arrives wsX1_isUnderWay := goodIn_r _ [69, 11, 70, 53, 7, 8, 9, 10, 12, 164, 165, 166, 167, 168, 169, 170, 171, 172, 173, 160, 161, 162, 163] (by decide +kernel) (by decide +kernel)
set_option maxRecDepth 20000 in
theorem gX3_arrives_X1_isUnderWay : GoodIn wsX3_arrives (wsV RX3 163 RX1 yX1_isUnderWay wsX1_isUnderWay) := goodIn_app (goodIn_of _ (by decide +kernel)) ggX3_arrives_X1_isUnderWay
set_option maxRecDepth 20000 in
theorem ggX3_arrives_X1_goThroughNights : GoodIn wsX3_arrives wsX1_goThroughNights := goodIn_r _ [74, 20, 75, 76, 77, 9, 78, 19, 79, 80, 81, 82, 83, 84, 85, 86, 24, 25, 26, 27, 17, 87, 88, 89, 90, 28, 29, 30, 31, 18, 32, 33, 34, 35, 36, 91, 92, 93, 43, 94, 52, 51, 95, 96, 97, 98, 46, 47, 50, 99, 100, 101, 102, 103, 104, 105, 106, 11, 107, 53, 7, 8, 10, 12, 108, 109, 110, 111, 112, 113, 114, 115, 116, 117, 118, 119, 120, 121, 60, 122, 64, 123, 124, 125, 126, 127, 22, 128, 129, 130, 131, 132, 49, 133, 134, 135, 136, 137, 138, 139, 140, 21, 54, 55, 56, 57, 58, 59, 61, 62, 63, 65, 141, 142, 143, 144, 145, 146, 147, 148, 149, 150, 151, 152, 153, 23, 154, 155, 156, 157, 48, 164, 165, 166, 167, 168, 169, 170, 171, 172, 173, 174, 175, 176, 177, 178, 179, 180, 181, 160, 161, 162, 163] (by decide +kernel) (by decide +kernel)
set_option maxRecDepth 20000 in
theorem gX3_arrives_X1_goThroughNights : GoodIn wsX3_arrives (wsV RX3 145 RX1 yX1_goThroughNights wsX1_goThroughNights) := goodIn_app (goodIn_of _ (by decide +kernel)) ggX3_arrives_X1_goThroughNights
theorem dX3_arrives_0 : decode cX3_arrives 0 = .ok (.aload_n 0, 1) := by decide +kernel
theorem dX3_arrives_1 : decode cX3_arrives 1 = .ok (.getfield 12, 3) := by decide +kernel
theorem dX3_arrives_4 : decode cX3_arrives 4 = .ok (.iload_n 1, 1) := by decide +kernel
theorem dX3_arrives_5 : decode cX3_arrives 5 = .ok (.invokevirtual 121, 3) := by decide +kernel
theorem dX3_arrives_8 : decode cX3_arrives 8 = .ok (.astore_n 2, 1) := by decide +kernel
theorem dX3_arrives_9 : decode cX3_arrives 9 = .ok (.aload_n 2, 1) := by decide +kernel
theorem dX3_arrives_10 : decode cX3_arrives 10 = .ok (.ifnonnull 13, 3) := by decide +kernel
theorem dX3_arrives_13 : decode cX3_arrives 13 = .ok (.new 47, 3) := by decide +kernel
theorem dX3_arrives_16 : decode cX3_arrives 16 = .ok (.dup, 1) := by decide +kernel
theorem dX3_arrives_17 : decode cX3_arrives 17 = .ok (.ldc 156, 2) := by decide +kernel
theorem dX3_arrives_19 : decode cX3_arrives 19 = .ok (.invokespecial 51, 3) := by decide +kernel
theorem dX3_arrives_22 : decode cX3_arrives 22 = .ok (.athrow, 1) := by decide +kernel
theorem dX3_arrives_23 : decode cX3_arrives 23 = .ok (.aload_n 0, 1) := by decide +kernel
theorem dX3_arrives_24 : decode cX3_arrives 24 = .ok (.getfield 16, 3) := by decide +kernel
theorem dX3_arrives_27 : decode cX3_arrives 27 = .ok (.aload_n 0, 1) := by decide +kernel
theorem dX3_arrives_28 : decode cX3_arrives 28 = .ok (.getfield 12, 3) := by decide +kernel
theorem dX3_arrives_31 : decode cX3_arrives 31 = .ok (.invokevirtual 149, 3) := by decide +kernel
theorem dX3_arrives_34 : decode cX3_arrives 34 = .ok (.iconst 0, 1) := by decide +kernel
theorem dX3_arrives_35 : decode cX3_arrives 35 = .ok (.istore_n 3, 1) := by decide +kernel
theorem dX3_arrives_36 : decode cX3_arrives 36 = .ok (.iload_n 3, 1) := by decide +kernel
theorem dX3_arrives_37 : decode cX3_arrives 37 = .ok (.bipush 39, 2) := by decide +kernel
theorem dX3_arrives_39 : decode cX3_arrives 39 = .ok (.if_icmp .gt 31, 3) := by decide +kernel
theorem dX3_arrives_42 : decode cX3_arrives 42 = .ok (.aload_n 0, 1) := by decide +kernel
theorem dX3_arrives_43 : decode cX3_arrives 43 = .ok (.getfield 16, 3) := by decide +kernel
theorem dX3_arrives_46 : decode cX3_arrives 46 = .ok (.aload_n 2, 1) := by decide +kernel
theorem dX3_arrives_47 : decode cX3_arrives 47 = .ok (.getfield 158, 3) := by decide +kernel
theorem dX3_arrives_50 : decode cX3_arrives 50 = .ok (.invokevirtual 163, 3) := by decide +kernel
theorem dX3_arrives_53 : decode cX3_arrives 53 = .ok (.ifCond .eq 17, 3) := by decide +kernel
theorem dX3_arrives_56 : decode cX3_arrives 56 = .ok (.aload_n 0, 1) := by decide +kernel
theorem dX3_arrives_57 : decode cX3_arrives 57 = .ok (.getfield 16, 3) := by decide +kernel
theorem dX3_arrives_60 : decode cX3_arrives 60 = .ok (.iconst 1, 1) := by decide +kernel
theorem dX3_arrives_61 : decode cX3_arrives 61 = .ok (.invokevirtual 145, 3) := by decide +kernel
theorem dX3_arrives_64 : decode cX3_arrives 64 = .ok (.iinc 3 1, 3) := by decide +kernel
theorem dX3_arrives_67 : decode cX3_arrives 67 = .ok (.goto (-31), 3) := by decide +kernel
theorem dX3_arrives_70 : decode cX3_arrives 70 = .ok (.iload_n 3, 1) := by decide +kernel
theorem dX3_arrives_71 : decode cX3_arrives 71 = .ok (.ireturn, 1) := by decide +kernel
set_option maxRecDepth 20000 in
theorem ggX3_lasts_X1_weirAt : GoodIn wsX3_lasts wsX1_weirAt := goodIn_r _ [10, 11, 12, 164, 165, 166, 167, 168, 169, 170, 171, 172, 173] (by decide +kernel) (by decide +kernel)
set_option maxRecDepth 20000 in
theorem gX3_lasts_X1_weirAt : GoodIn wsX3_lasts (wsV RX3 43 RX1 yX1_weirAt wsX1_weirAt) := goodIn_app (goodIn_of _ (by decide +kernel)) ggX3_lasts_X1_weirAt
set_option maxRecDepth 20000 in
theorem ggX3_lasts_X1_copyFrom : GoodIn wsX3_lasts wsX1_copyFrom := goodIn_r _ [16, 17, 18, 11, 19, 20, 21, 22, 23, 24, 25, 26, 9, 27, 28, 29, 30, 31, 32, 7, 8, 10, 12, 33, 34, 35, 36, 37, 38, 39, 40, 41, 42, 43, 44, 45, 46, 47, 48, 49, 50, 51, 52, 53, 54, 55, 56, 57, 58, 59, 60, 61, 62, 63, 64, 65, 164, 165, 166, 167, 168, 169, 170, 171, 172, 173, 156, 157, 158, 159, 160, 161, 162, 163, 174, 175, 176, 177] (by decide +kernel) (by decide +kernel)
set_option maxRecDepth 20000 in
theorem gX3_lasts_X1_copyFrom : GoodIn wsX3_lasts (wsV RX3 149 RX1 yX1_copyFrom wsX1_copyFrom) := goodIn_app (goodIn_of _ (by decide +kernel)) ggX3_lasts_X1_copyFrom
set_option maxRecDepth 20000 in
theorem ggX3_lasts_X2_isHeld : GoodIn wsX3_lasts wsX2_isHeld := goodIn_r _ [69, 48, 156, 157, 158, 159, 160, 161, 162, 163] (by decide +kernel) (by decide +kernel)
set_option maxRecDepth 20000 in
theorem gX3_lasts_X2_isHeld : GoodIn wsX3_lasts (wsV RX3 52 RX2 yX2_isHeld wsX2_isHeld) := goodIn_app (goodIn_of _ (by decide +kernel)) ggX3_lasts_X2_isHeld
set_option maxRecDepth 20000 in
theorem ggX3_lasts_X1_goThroughNights : GoodIn wsX3_lasts wsX1_goThroughNights := goodIn_r _ [73, 20, 74, 75, 76, 9, 77, 11, 78, 79, 80, 81, 82, 83, 84, 85, 24, 25, 26, 27, 17, 86, 87, 88, 89, 28, 29, 30, 31, 18, 32, 7, 8, 10, 12, 90, 91, 92, 39, 93, 48, 47, 94, 95, 96, 97, 42, 43, 46, 98, 99, 100, 101, 102, 103, 104, 105, 19, 106, 49, 50, 51, 52, 53, 107, 108, 109, 110, 111, 112, 113, 114, 115, 116, 117, 118, 119, 120, 60, 121, 64, 122, 123, 124, 125, 126, 22, 127, 128, 129, 130, 131, 45, 132, 133, 134, 135, 136, 137, 138, 139, 21, 54, 55, 56, 57, 58, 59, 61, 62, 63, 65, 140, 141, 142, 143, 144, 67, 68, 69, 145, 146, 147, 148, 149, 23, 150, 151, 152, 153, 44, 164, 165, 166, 167, 168, 169, 170, 171, 172, 173, 156, 157, 158, 159, 160, 161, 162, 163, 174, 175, 176, 177] (by decide +kernel) (by decide +kernel)
set_option maxRecDepth 20000 in
theorem gX3_lasts_X1_goThroughNights : GoodIn wsX3_lasts (wsV RX3 145 RX1 yX1_goThroughNights wsX1_goThroughNights) := goodIn_app (goodIn_of _ (by decide +kernel)) ggX3_lasts_X1_goThroughNights
theorem dX3_lasts_0 : decode cX3_lasts 0 = .ok (.aload_n 0, 1) := by decide +kernel
theorem dX3_lasts_1 : decode cX3_lasts 1 = .ok (.getfield 12, 3) := by decide +kernel
theorem dX3_lasts_4 : decode cX3_lasts 4 = .ok (.iload_n 1, 1) := by decide +kernel
theorem dX3_lasts_5 : decode cX3_lasts 5 = .ok (.invokevirtual 43, 3) := by decide +kernel
theorem dX3_lasts_8 : decode cX3_lasts 8 = .ok (.ifnonnull 13, 3) := by decide +kernel
theorem dX3_lasts_11 : decode cX3_lasts 11 = .ok (.new 47, 3) := by decide +kernel
theorem dX3_lasts_14 : decode cX3_lasts 14 = .ok (.dup, 1) := by decide +kernel
theorem dX3_lasts_15 : decode cX3_lasts 15 = .ok (.ldc 49, 2) := by decide +kernel
theorem dX3_lasts_17 : decode cX3_lasts 17 = .ok (.invokespecial 51, 3) := by decide +kernel
theorem dX3_lasts_20 : decode cX3_lasts 20 = .ok (.athrow, 1) := by decide +kernel
theorem dX3_lasts_21 : decode cX3_lasts 21 = .ok (.aload_n 0, 1) := by decide +kernel
theorem dX3_lasts_22 : decode cX3_lasts 22 = .ok (.getfield 16, 3) := by decide +kernel
theorem dX3_lasts_25 : decode cX3_lasts 25 = .ok (.aload_n 0, 1) := by decide +kernel
theorem dX3_lasts_26 : decode cX3_lasts 26 = .ok (.getfield 12, 3) := by decide +kernel
theorem dX3_lasts_29 : decode cX3_lasts 29 = .ok (.invokevirtual 149, 3) := by decide +kernel
theorem dX3_lasts_32 : decode cX3_lasts 32 = .ok (.aload_n 0, 1) := by decide +kernel
theorem dX3_lasts_33 : decode cX3_lasts 33 = .ok (.getfield 16, 3) := by decide +kernel
theorem dX3_lasts_36 : decode cX3_lasts 36 = .ok (.iload_n 1, 1) := by decide +kernel
theorem dX3_lasts_37 : decode cX3_lasts 37 = .ok (.invokevirtual 43, 3) := by decide +kernel
theorem dX3_lasts_40 : decode cX3_lasts 40 = .ok (.astore_n 2, 1) := by decide +kernel
theorem dX3_lasts_41 : decode cX3_lasts 41 = .ok (.iconst 0, 1) := by decide +kernel
theorem dX3_lasts_42 : decode cX3_lasts 42 = .ok (.istore_n 3, 1) := by decide +kernel
theorem dX3_lasts_43 : decode cX3_lasts 43 = .ok (.iload_n 3, 1) := by decide +kernel
theorem dX3_lasts_44 : decode cX3_lasts 44 = .ok (.bipush 100, 2) := by decide +kernel
theorem dX3_lasts_46 : decode cX3_lasts 46 = .ok (.if_icmp .ge 35, 3) := by decide +kernel
theorem dX3_lasts_49 : decode cX3_lasts 49 = .ok (.aload_n 2, 1) := by decide +kernel
theorem dX3_lasts_50 : decode cX3_lasts 50 = .ok (.ifnull 31, 3) := by decide +kernel
theorem dX3_lasts_53 : decode cX3_lasts 53 = .ok (.aload_n 2, 1) := by decide +kernel
theorem dX3_lasts_54 : decode cX3_lasts 54 = .ok (.invokevirtual 52, 3) := by decide +kernel
theorem dX3_lasts_57 : decode cX3_lasts 57 = .ok (.ifCond .eq 24, 3) := by decide +kernel
theorem dX3_lasts_60 : decode cX3_lasts 60 = .ok (.aload_n 2, 1) := by decide +kernel
theorem dX3_lasts_61 : decode cX3_lasts 61 = .ok (.getfield 66, 3) := by decide +kernel
theorem dX3_lasts_64 : decode cX3_lasts 64 = .ok (.ifCond .le 17, 3) := by decide +kernel
theorem dX3_lasts_67 : decode cX3_lasts 67 = .ok (.aload_n 0, 1) := by decide +kernel
theorem dX3_lasts_68 : decode cX3_lasts 68 = .ok (.getfield 16, 3) := by decide +kernel
theorem dX3_lasts_71 : decode cX3_lasts 71 = .ok (.iconst 1, 1) := by decide +kernel
theorem dX3_lasts_72 : decode cX3_lasts 72 = .ok (.invokevirtual 145, 3) := by decide +kernel
theorem dX3_lasts_75 : decode cX3_lasts 75 = .ok (.iinc 3 1, 3) := by decide +kernel
theorem dX3_lasts_78 : decode cX3_lasts 78 = .ok (.goto (-35), 3) := by decide +kernel
theorem dX3_lasts_81 : decode cX3_lasts 81 = .ok (.iload_n 3, 1) := by decide +kernel
theorem dX3_lasts_82 : decode cX3_lasts 82 = .ok (.ireturn, 1) := by decide +kernel
set_option maxRecDepth 20000 in
theorem ggX3_foresee_X3_isWithin : GoodIn wsX3_foresee wsX3_isWithin := goodIn_r _ [10] (by decide +kernel) (by decide +kernel)
set_option maxRecDepth 20000 in
theorem gX3_foresee_X3_isWithin : GoodIn wsX3_foresee (va_wsS RX3 19 yX3_isWithin wsX3_isWithin) := goodIn_app (goodIn_of _ (by decide +kernel)) ggX3_foresee_X3_isWithin
set_option maxRecDepth 20000 in
theorem ggX3_foresee_X1_copyFrom : GoodIn wsX3_foresee wsX1_copyFrom := goodIn_r _ [15, 16, 17, 18, 19, 20, 21, 22, 23, 24, 25, 26, 14, 27, 28, 29, 30, 31, 32, 33, 34, 35, 36, 37, 38, 39, 40, 41, 42, 43, 44, 45, 46, 47, 48, 49, 50, 51, 52, 53, 54, 55, 56, 57, 58, 59, 60, 61, 62, 63, 64, 65, 66, 67, 68, 69, 172, 173, 174, 175, 176, 177, 178, 179, 180, 181, 182, 183, 184, 185, 186, 187, 188, 189, 190, 191, 192, 193] (by decide +kernel) (by decide +kernel)
set_option maxRecDepth 20000 in
theorem gX3_foresee_X1_copyFrom : GoodIn wsX3_foresee (wsV RX3 149 RX1 yX1_copyFrom wsX1_copyFrom) := goodIn_app (goodIn_of _ (by decide +kernel)) ggX3_foresee_X1_copyFrom
set_option maxRecDepth 20000 in
theorem ggX3_foresee_X1_goThroughNights : GoodIn wsX3_foresee wsX1_goThroughNights := goodIn_r _ [73, 20, 74, 75, 76, 14, 77, 18, 78, 79, 80, 81, 82, 83, 84, 85, 24, 25, 26, 27, 16, 86, 87, 88, 89, 28, 29, 30, 31, 17, 32, 33, 34, 35, 36, 90, 91, 92, 43, 93, 52, 51, 94, 95, 96, 97, 46, 47, 50, 98, 99, 100, 101, 102, 103, 104, 105, 19, 106, 53, 54, 55, 56, 57, 107, 108, 109, 110, 111, 112, 113, 114, 115, 116, 117, 118, 119, 120, 64, 121, 68, 122, 123, 124, 125, 126, 22, 127, 128, 129, 130, 131, 49, 132, 133, 134, 135, 136, 137, 138, 139, 21, 58, 59, 60, 61, 62, 63, 65, 66, 67, 69, 140, 141, 142, 143, 144, 145, 146, 147, 148, 149, 150, 151, 152, 23, 153, 154, 155, 156, 48, 172, 173, 174, 175, 176, 177, 178, 179, 180, 181, 182, 183, 184, 185, 186, 187, 188, 189, 190, 191, 192, 193] (by decide +kernel) (by decide +kernel)
set_option maxRecDepth 20000 in
theorem gX3_foresee_X1_goThroughNights : GoodIn wsX3_foresee (wsV RX3 145 RX1 yX1_goThroughNights wsX1_goThroughNights) := goodIn_app (goodIn_of _ (by decide +kernel)) ggX3_foresee_X1_goThroughNights
set_option maxRecDepth 20000 in
theorem ggX3_foresee_X1_fact : GoodIn wsX3_foresee wsX1_fact := goodIn_r _ [160, 20, 18, 19, 21, 22, 23, 86, 87, 88, 14, 89, 82, 83, 84, 85, 78, 79, 80, 81, 24, 25, 26, 27, 16, 161, 162, 163, 164, 32, 33, 34, 35, 36, 144, 145, 146, 43, 147, 52, 165, 166, 167, 168, 169, 172, 173, 174, 175, 176, 177, 178, 179, 180, 181, 182, 183, 184, 185, 186, 187, 188, 189] (by decide +kernel) (by decide +kernel)
set_option maxRecDepth 20000 in
theorem gX3_foresee_X1_fact : GoodIn wsX3_foresee (wsV RX3 133 RX1 yX1_fact wsX1_fact) := goodIn_app (goodIn_of _ (by decide +kernel)) ggX3_foresee_X1_fact
theorem dX3_foresee_0 : decode cX3_foresee 0 = .ok (.iload_n 1, 1) := by decide +kernel
theorem dX3_foresee_1 : decode cX3_foresee 1 = .ok (.iconst 1, 1) := by decide +kernel
theorem dX3_foresee_2 : decode cX3_foresee 2 = .ok (.bipush 56, 2) := by decide +kernel
theorem dX3_foresee_4 : decode cX3_foresee 4 = .ok (.invokestatic 19, 3) := by decide +kernel
theorem dX3_foresee_7 : decode cX3_foresee 7 = .ok (.ifCond .ne 13, 3) := by decide +kernel
theorem dX3_foresee_10 : decode cX3_foresee 10 = .ok (.new 23, 3) := by decide +kernel
theorem dX3_foresee_13 : decode cX3_foresee 13 = .ok (.dup, 1) := by decide +kernel
theorem dX3_foresee_14 : decode cX3_foresee 14 = .ok (.ldc 167, 2) := by decide +kernel
theorem dX3_foresee_16 : decode cX3_foresee 16 = .ok (.invokespecial 27, 3) := by decide +kernel
theorem dX3_foresee_19 : decode cX3_foresee 19 = .ok (.athrow, 1) := by decide +kernel
theorem dX3_foresee_20 : decode cX3_foresee 20 = .ok (.iload_n 2, 1) := by decide +kernel
theorem dX3_foresee_21 : decode cX3_foresee 21 = .ok (.iconst 4, 1) := by decide +kernel
theorem dX3_foresee_22 : decode cX3_foresee 22 = .ok (.if_icmp .eq 24, 3) := by decide +kernel
theorem dX3_foresee_25 : decode cX3_foresee 25 = .ok (.iload_n 2, 1) := by decide +kernel
theorem dX3_foresee_26 : decode cX3_foresee 26 = .ok (.bipush 6, 2) := by decide +kernel
theorem dX3_foresee_28 : decode cX3_foresee 28 = .ok (.bipush 9, 2) := by decide +kernel
theorem dX3_foresee_30 : decode cX3_foresee 30 = .ok (.invokestatic 19, 3) := by decide +kernel
theorem dX3_foresee_33 : decode cX3_foresee 33 = .ok (.ifCond .ne 13, 3) := by decide +kernel
theorem dX3_foresee_36 : decode cX3_foresee 36 = .ok (.new 47, 3) := by decide +kernel
theorem dX3_foresee_39 : decode cX3_foresee 39 = .ok (.dup, 1) := by decide +kernel
theorem dX3_foresee_40 : decode cX3_foresee 40 = .ok (.ldc 169, 2) := by decide +kernel
theorem dX3_foresee_42 : decode cX3_foresee 42 = .ok (.invokespecial 51, 3) := by decide +kernel
theorem dX3_foresee_45 : decode cX3_foresee 45 = .ok (.athrow, 1) := by decide +kernel
theorem dX3_foresee_46 : decode cX3_foresee 46 = .ok (.aload_n 0, 1) := by decide +kernel
theorem dX3_foresee_47 : decode cX3_foresee 47 = .ok (.getfield 16, 3) := by decide +kernel
theorem dX3_foresee_50 : decode cX3_foresee 50 = .ok (.aload_n 0, 1) := by decide +kernel
theorem dX3_foresee_51 : decode cX3_foresee 51 = .ok (.getfield 12, 3) := by decide +kernel
theorem dX3_foresee_54 : decode cX3_foresee 54 = .ok (.invokevirtual 149, 3) := by decide +kernel
theorem dX3_foresee_57 : decode cX3_foresee 57 = .ok (.aload_n 0, 1) := by decide +kernel
theorem dX3_foresee_58 : decode cX3_foresee 58 = .ok (.getfield 16, 3) := by decide +kernel
theorem dX3_foresee_61 : decode cX3_foresee 61 = .ok (.iload_n 1, 1) := by decide +kernel
theorem dX3_foresee_62 : decode cX3_foresee 62 = .ok (.invokevirtual 145, 3) := by decide +kernel
theorem dX3_foresee_65 : decode cX3_foresee 65 = .ok (.aload_n 0, 1) := by decide +kernel
theorem dX3_foresee_66 : decode cX3_foresee 66 = .ok (.getfield 16, 3) := by decide +kernel
theorem dX3_foresee_69 : decode cX3_foresee 69 = .ok (.iload_n 2, 1) := by decide +kernel
theorem dX3_foresee_70 : decode cX3_foresee 70 = .ok (.invokevirtual 133, 3) := by decide +kernel
theorem dX3_foresee_73 : decode cX3_foresee 73 = .ok (.ireturn, 1) := by decide +kernel
set_option maxRecDepth 20000 in
theorem ggX3_advise_X1_weirAt : GoodIn wsX3_advise wsX1_weirAt := goodIn_r _ [10, 11, 12, 167, 168, 169, 170, 171, 172, 173, 174, 175, 176] (by decide +kernel) (by decide +kernel)
set_option maxRecDepth 20000 in
theorem gX3_advise_X1_weirAt : GoodIn wsX3_advise (wsV RX3 43 RX1 yX1_weirAt wsX1_weirAt) := goodIn_app (goodIn_of _ (by decide +kernel)) ggX3_advise_X1_weirAt
set_option maxRecDepth 20000 in
theorem ggX3_advise_X3_isWithin : GoodIn wsX3_advise wsX3_isWithin := goodIn_r _ [16] (by decide +kernel) (by decide +kernel)
set_option maxRecDepth 20000 in
theorem gX3_advise_X3_isWithin : GoodIn wsX3_advise (va_wsS RX3 19 yX3_isWithin wsX3_isWithin) := goodIn_app (goodIn_of _ (by decide +kernel)) ggX3_advise_X3_isWithin
set_option maxRecDepth 20000 in
theorem ggX3_advise_X2_isFishing : GoodIn wsX3_advise wsX2_isFishing := goodIn_r _ [21, 22, 23, 177, 178, 179, 180, 181, 182, 183, 184] (by decide +kernel) (by decide +kernel)
set_option maxRecDepth 20000 in
theorem gX3_advise_X2_isFishing : GoodIn wsX3_advise (wsV RX3 173 RX2 yX2_isFishing wsX2_isFishing) := goodIn_app (goodIn_of _ (by decide +kernel)) ggX3_advise_X2_isFishing
set_option maxRecDepth 20000 in
theorem ggX3_advise_X3_eelsWithStakes : GoodIn wsX3_advise wsX3_eelsWithStakes := goodIn_r _ [27, 28, 5, 29, 30, 31, 32, 33, 9, 34, 35, 36, 11, 37, 38, 39, 40, 41, 42, 43, 44, 45, 46, 47, 48, 49, 50, 7, 8, 10, 12, 51, 52, 53, 54, 55, 56, 20, 57, 58, 59, 60, 61, 62, 63, 23, 22, 64, 65, 66, 67, 68, 69, 70, 71, 72, 73, 74, 75, 76, 77, 78, 79, 80, 6, 81, 82, 83, 84, 85, 86, 87, 88, 89, 90, 91, 92, 93, 94, 95, 96, 97, 98, 99, 100, 101, 18, 19, 21, 102, 103, 104, 105, 106, 107, 108, 109, 110, 111, 112, 113, 114, 115, 116, 117, 118, 119, 120, 121, 122, 123, 124, 125, 126, 127, 128, 129, 130, 131, 132, 133, 134, 135, 136, 137, 138, 139, 140, 141, 142, 143, 144, 145, 146, 147, 148, 149, 150, 151, 152, 153, 154, 155, 156, 157, 158, 159, 160, 161, 162, 163, 164, 165, 166, 177, 178, 179, 180, 181, 182, 183, 184, 167, 168, 169, 170, 171, 172, 173, 174, 175, 176, 185, 186, 187, 188] (by decide +kernel) (by decide +kernel)
set_option maxRecDepth 20000 in
theorem gX3_advise_X3_eelsWithStakes : GoodIn wsX3_advise (wsV RX3 176 RX3 yX3_eelsWithStakes wsX3_eelsWithStakes) := goodIn_app (goodIn_of _ (by decide +kernel)) ggX3_advise_X3_eelsWithStakes
theorem dX3_advise_0 : decode cX3_advise 0 = .ok (.aload_n 0, 1) := by decide +kernel
theorem dX3_advise_1 : decode cX3_advise 1 = .ok (.getfield 12, 3) := by decide +kernel
theorem dX3_advise_4 : decode cX3_advise 4 = .ok (.iload_n 1, 1) := by decide +kernel
theorem dX3_advise_5 : decode cX3_advise 5 = .ok (.invokevirtual 43, 3) := by decide +kernel
theorem dX3_advise_8 : decode cX3_advise 8 = .ok (.astore_n 3, 1) := by decide +kernel
theorem dX3_advise_9 : decode cX3_advise 9 = .ok (.aload_n 3, 1) := by decide +kernel
theorem dX3_advise_10 : decode cX3_advise 10 = .ok (.ifnonnull 13, 3) := by decide +kernel
theorem dX3_advise_13 : decode cX3_advise 13 = .ok (.new 47, 3) := by decide +kernel
theorem dX3_advise_16 : decode cX3_advise 16 = .ok (.dup, 1) := by decide +kernel
theorem dX3_advise_17 : decode cX3_advise 17 = .ok (.ldc 49, 2) := by decide +kernel
theorem dX3_advise_19 : decode cX3_advise 19 = .ok (.invokespecial 51, 3) := by decide +kernel
theorem dX3_advise_22 : decode cX3_advise 22 = .ok (.athrow, 1) := by decide +kernel
theorem dX3_advise_23 : decode cX3_advise 23 = .ok (.iload_n 2, 1) := by decide +kernel
theorem dX3_advise_24 : decode cX3_advise 24 = .ok (.iconst 1, 1) := by decide +kernel
theorem dX3_advise_25 : decode cX3_advise 25 = .ok (.bipush 20, 2) := by decide +kernel
theorem dX3_advise_27 : decode cX3_advise 27 = .ok (.invokestatic 19, 3) := by decide +kernel
theorem dX3_advise_30 : decode cX3_advise 30 = .ok (.ifCond .ne 13, 3) := by decide +kernel
theorem dX3_advise_33 : decode cX3_advise 33 = .ok (.new 23, 3) := by decide +kernel
theorem dX3_advise_36 : decode cX3_advise 36 = .ok (.dup, 1) := by decide +kernel
theorem dX3_advise_37 : decode cX3_advise 37 = .ok (.ldc 171, 2) := by decide +kernel
theorem dX3_advise_39 : decode cX3_advise 39 = .ok (.invokespecial 27, 3) := by decide +kernel
theorem dX3_advise_42 : decode cX3_advise 42 = .ok (.athrow, 1) := by decide +kernel
theorem dX3_advise_43 : decode cX3_advise 43 = .ok (.aload_n 3, 1) := by decide +kernel
theorem dX3_advise_44 : decode cX3_advise 44 = .ok (.invokevirtual 173, 3) := by decide +kernel
theorem dX3_advise_47 : decode cX3_advise 47 = .ok (.ifCond .ne 5, 3) := by decide +kernel
theorem dX3_advise_50 : decode cX3_advise 50 = .ok (.iconst 1, 1) := by decide +kernel
theorem dX3_advise_51 : decode cX3_advise 51 = .ok (.ireturn, 1) := by decide +kernel
theorem dX3_advise_52 : decode cX3_advise 52 = .ok (.iconst 1, 1) := by decide +kernel
theorem dX3_advise_53 : decode cX3_advise 53 = .ok (.istore 4, 2) := by decide +kernel
theorem dX3_advise_55 : decode cX3_advise 55 = .ok (.iconst (-1), 1) := by decide +kernel
theorem dX3_advise_56 : decode cX3_advise 56 = .ok (.istore 5, 2) := by decide +kernel
theorem dX3_advise_58 : decode cX3_advise 58 = .ok (.iconst 1, 1) := by decide +kernel
theorem dX3_advise_59 : decode cX3_advise 59 = .ok (.istore 6, 2) := by decide +kernel
theorem dX3_advise_61 : decode cX3_advise 61 = .ok (.iload 6, 2) := by decide +kernel
theorem dX3_advise_63 : decode cX3_advise 63 = .ok (.bipush 30, 2) := by decide +kernel
theorem dX3_advise_65 : decode cX3_advise 65 = .ok (.if_icmp .gt 34, 3) := by decide +kernel
theorem dX3_advise_68 : decode cX3_advise 68 = .ok (.aload_n 0, 1) := by decide +kernel
theorem dX3_advise_69 : decode cX3_advise 69 = .ok (.iload_n 1, 1) := by decide +kernel
theorem dX3_advise_70 : decode cX3_advise 70 = .ok (.iload 6, 2) := by decide +kernel
theorem dX3_advise_72 : decode cX3_advise 72 = .ok (.iload_n 2, 1) := by decide +kernel
theorem dX3_advise_73 : decode cX3_advise 73 = .ok (.invokevirtual 176, 3) := by decide +kernel
theorem dX3_advise_76 : decode cX3_advise 76 = .ok (.istore 7, 2) := by decide +kernel
theorem dX3_advise_78 : decode cX3_advise 78 = .ok (.iload 7, 2) := by decide +kernel
theorem dX3_advise_80 : decode cX3_advise 80 = .ok (.iload 5, 2) := by decide +kernel
theorem dX3_advise_82 : decode cX3_advise 82 = .ok (.if_icmp .le 11, 3) := by decide +kernel
theorem dX3_advise_85 : decode cX3_advise 85 = .ok (.iload 7, 2) := by decide +kernel
theorem dX3_advise_87 : decode cX3_advise 87 = .ok (.istore 5, 2) := by decide +kernel
theorem dX3_advise_89 : decode cX3_advise 89 = .ok (.iload 6, 2) := by decide +kernel
theorem dX3_advise_91 : decode cX3_advise 91 = .ok (.istore 4, 2) := by decide +kernel
theorem dX3_advise_93 : decode cX3_advise 93 = .ok (.iinc 6 1, 3) := by decide +kernel
theorem dX3_advise_96 : decode cX3_advise 96 = .ok (.goto (-35), 3) := by decide +kernel
theorem dX3_advise_99 : decode cX3_advise 99 = .ok (.iload 4, 2) := by decide +kernel
theorem dX3_advise_101 : decode cX3_advise 101 = .ok (.ireturn, 1) := by decide +kernel
set_option maxRecDepth 20000 in
theorem ggX3_mean_X1_heldWeirs : GoodIn wsX3_mean wsX1_heldWeirs := goodIn_r _ [6, 7, 8, 9, 10, 5, 11, 12, 13, 14, 15, 16, 17, 18, 26, 27, 28, 29, 30, 31, 32, 33, 34, 35, 36, 37, 38, 39, 40, 41, 42, 43] (by decide +kernel) (by decide +kernel)
set_option maxRecDepth 20000 in
theorem gX3_mean_X1_heldWeirs : GoodIn wsX3_mean (wsV RX3 179 RX1 yX1_heldWeirs wsX1_heldWeirs) := goodIn_app (goodIn_of _ (by decide +kernel)) ggX3_mean_X1_heldWeirs
set_option maxRecDepth 20000 in
theorem ggX3_mean_X1_heldWattle : GoodIn wsX3_mean wsX1_heldWattle := goodIn_r _ [22, 7, 23, 8, 9, 10, 5, 11, 12, 13, 14, 15, 16, 17, 18, 26, 27, 28, 29, 30, 31, 32, 33, 34, 35, 36, 37, 38, 39, 40, 41, 42, 43] (by decide +kernel) (by decide +kernel)
set_option maxRecDepth 20000 in
theorem gX3_mean_X1_heldWattle : GoodIn wsX3_mean (wsV RX3 182 RX1 yX1_heldWattle wsX1_heldWattle) := goodIn_app (goodIn_of _ (by decide +kernel)) ggX3_mean_X1_heldWattle
theorem dX3_mean_0 : decode cX3_mean 0 = .ok (.aload_n 0, 1) := by decide +kernel
theorem dX3_mean_1 : decode cX3_mean 1 = .ok (.getfield 12, 3) := by decide +kernel
theorem dX3_mean_4 : decode cX3_mean 4 = .ok (.invokevirtual 179, 3) := by decide +kernel
theorem dX3_mean_7 : decode cX3_mean 7 = .ok (.istore_n 1, 1) := by decide +kernel
theorem dX3_mean_8 : decode cX3_mean 8 = .ok (.iload_n 1, 1) := by decide +kernel
theorem dX3_mean_9 : decode cX3_mean 9 = .ok (.ifCond .ne 7, 3) := by decide +kernel
theorem dX3_mean_12 : decode cX3_mean 12 = .ok (.dconst 0, 1) := by decide +kernel
theorem dX3_mean_13 : decode cX3_mean 13 = .ok (.goto 14, 3) := by decide +kernel
theorem dX3_mean_16 : decode cX3_mean 16 = .ok (.aload_n 0, 1) := by decide +kernel
theorem dX3_mean_17 : decode cX3_mean 17 = .ok (.getfield 12, 3) := by decide +kernel
theorem dX3_mean_20 : decode cX3_mean 20 = .ok (.invokevirtual 182, 3) := by decide +kernel
theorem dX3_mean_23 : decode cX3_mean 23 = .ok (.i2d, 1) := by decide +kernel
theorem dX3_mean_24 : decode cX3_mean 24 = .ok (.iload_n 1, 1) := by decide +kernel
theorem dX3_mean_25 : decode cX3_mean 25 = .ok (.i2d, 1) := by decide +kernel
theorem dX3_mean_26 : decode cX3_mean 26 = .ok (.ddiv, 1) := by decide +kernel
theorem dX3_mean_27 : decode cX3_mean 27 = .ok (.dreturn, 1) := by decide +kernel
set_option maxRecDepth 20000 in
theorem ggX3_digest_X1_fact : GoodIn wsX3_digest wsX1_fact := goodIn_r _ [8, 9, 10, 11, 12, 13, 14, 15, 16, 17, 7, 18, 19, 20, 21, 22, 23, 24, 25, 26, 27, 28, 29, 30, 31, 32, 33, 34, 35, 36, 37, 38, 39, 40, 41, 42, 43, 44, 45, 46, 47, 48, 49, 50, 51, 103, 104, 105, 106, 107, 108, 109, 110, 111, 112, 113, 114, 115, 116, 117, 118, 119, 120] (by decide +kernel) (by decide +kernel)
set_option maxRecDepth 20000 in
theorem gX3_digest_X1_fact : GoodIn wsX3_digest (wsV RX3 133 RX1 yX1_fact wsX1_fact) := goodIn_app (goodIn_of _ (by decide +kernel)) ggX3_digest_X1_fact
set_option maxRecDepth 20000 in
theorem ggX3_digest_X1_tableEels : GoodIn wsX3_digest wsX1_tableEels := goodIn_r _ [30, 31, 103, 104, 105, 106, 107, 108, 109, 110, 111, 112] (by decide +kernel) (by decide +kernel)
set_option maxRecDepth 20000 in
theorem gX3_digest_X1_tableEels : GoodIn wsX3_digest (wsV RX3 98 RX1 yX1_tableEels wsX1_tableEels) := goodIn_app (goodIn_of _ (by decide +kernel)) ggX3_digest_X1_tableEels
set_option maxRecDepth 20000 in
theorem ggX3_digest_X3_digestOfWeirs : GoodIn wsX3_digest wsX3_digestOfWeirs := goodIn_r _ [57, 3, 58, 2, 59, 37, 38, 7, 39, 10, 40, 60, 61, 62, 44, 63, 64, 65, 66, 67, 68, 69, 70, 46, 101, 102, 103, 104, 105, 106, 107, 108, 109, 110, 111, 112, 113, 114, 115, 116, 117, 118, 119, 120] (by decide +kernel) (by decide +kernel)
set_option maxRecDepth 20000 in
theorem gX3_digest_X3_digestOfWeirs : GoodIn wsX3_digest (wsV RX3 189 RX3 yX3_digestOfWeirs wsX3_digestOfWeirs) := goodIn_app (goodIn_of _ (by decide +kernel)) ggX3_digest_X3_digestOfWeirs
set_option maxRecDepth 20000 in
theorem ggX3_digest_X3_digestOfBarges : GoodIn wsX3_digest wsX3_digestOfBarges := goodIn_r _ [74, 3, 75, 2, 76, 77, 78, 7, 79, 11, 80, 81, 82, 83, 84, 85, 86, 87, 88, 89, 90, 91, 10, 92, 36, 37, 38, 39, 40, 93, 94, 95, 44, 96, 65, 97, 98, 99, 100, 46, 70, 101, 102, 103, 104, 105, 106, 107, 108, 109, 110, 111, 112, 121, 122, 123, 124, 113, 114, 115, 116, 117, 118, 119, 120] (by decide +kernel) (by decide +kernel)
set_option maxRecDepth 20000 in
theorem gX3_digest_X3_digestOfBarges : GoodIn wsX3_digest (wsV RX3 193 RX3 yX3_digestOfBarges wsX3_digestOfBarges) := goodIn_app (goodIn_of _ (by decide +kernel)) ggX3_digest_X3_digestOfBarges
theorem dX3_digest_0 : decode cX3_digest 0 = .ok (.ldc2_w 185, 3) := by decide +kernel
theorem dX3_digest_3 : decode cX3_digest 3 = .ok (.lstore_n 1, 1) := by decide +kernel
theorem dX3_digest_4 : decode cX3_digest 4 = .ok (.iconst 0, 1) := by decide +kernel
theorem dX3_digest_5 : decode cX3_digest 5 = .ok (.istore_n 3, 1) := by decide +kernel
theorem dX3_digest_6 : decode cX3_digest 6 = .ok (.iload_n 3, 1) := by decide +kernel
theorem dX3_digest_7 : decode cX3_digest 7 = .ok (.bipush 9, 2) := by decide +kernel
theorem dX3_digest_9 : decode cX3_digest 9 = .ok (.if_icmp .gt 25, 3) := by decide +kernel
theorem dX3_digest_12 : decode cX3_digest 12 = .ok (.lload_n 1, 1) := by decide +kernel
theorem dX3_digest_13 : decode cX3_digest 13 = .ok (.ldc2_w 187, 3) := by decide +kernel
theorem dX3_digest_16 : decode cX3_digest 16 = .ok (.lmul, 1) := by decide +kernel
theorem dX3_digest_17 : decode cX3_digest 17 = .ok (.aload_n 0, 1) := by decide +kernel
theorem dX3_digest_18 : decode cX3_digest 18 = .ok (.getfield 12, 3) := by decide +kernel
theorem dX3_digest_21 : decode cX3_digest 21 = .ok (.iload_n 3, 1) := by decide +kernel
theorem dX3_digest_22 : decode cX3_digest 22 = .ok (.invokevirtual 133, 3) := by decide +kernel
theorem dX3_digest_25 : decode cX3_digest 25 = .ok (.i2l, 1) := by decide +kernel
theorem dX3_digest_26 : decode cX3_digest 26 = .ok (.ladd, 1) := by decide +kernel
theorem dX3_digest_27 : decode cX3_digest 27 = .ok (.lstore_n 1, 1) := by decide +kernel
theorem dX3_digest_28 : decode cX3_digest 28 = .ok (.iinc 3 1, 3) := by decide +kernel
theorem dX3_digest_31 : decode cX3_digest 31 = .ok (.goto (-25), 3) := by decide +kernel
theorem dX3_digest_34 : decode cX3_digest 34 = .ok (.iconst 0, 1) := by decide +kernel
theorem dX3_digest_35 : decode cX3_digest 35 = .ok (.istore_n 3, 1) := by decide +kernel
theorem dX3_digest_36 : decode cX3_digest 36 = .ok (.iload_n 3, 1) := by decide +kernel
theorem dX3_digest_37 : decode cX3_digest 37 = .ok (.bipush 7, 2) := by decide +kernel
theorem dX3_digest_39 : decode cX3_digest 39 = .ok (.if_icmp .ge 25, 3) := by decide +kernel
theorem dX3_digest_42 : decode cX3_digest 42 = .ok (.lload_n 1, 1) := by decide +kernel
theorem dX3_digest_43 : decode cX3_digest 43 = .ok (.ldc2_w 187, 3) := by decide +kernel
theorem dX3_digest_46 : decode cX3_digest 46 = .ok (.lmul, 1) := by decide +kernel
theorem dX3_digest_47 : decode cX3_digest 47 = .ok (.aload_n 0, 1) := by decide +kernel
theorem dX3_digest_48 : decode cX3_digest 48 = .ok (.getfield 12, 3) := by decide +kernel
theorem dX3_digest_51 : decode cX3_digest 51 = .ok (.iload_n 3, 1) := by decide +kernel
theorem dX3_digest_52 : decode cX3_digest 52 = .ok (.invokevirtual 98, 3) := by decide +kernel
theorem dX3_digest_55 : decode cX3_digest 55 = .ok (.i2l, 1) := by decide +kernel
theorem dX3_digest_56 : decode cX3_digest 56 = .ok (.ladd, 1) := by decide +kernel
theorem dX3_digest_57 : decode cX3_digest 57 = .ok (.lstore_n 1, 1) := by decide +kernel
theorem dX3_digest_58 : decode cX3_digest 58 = .ok (.iinc 3 1, 3) := by decide +kernel
theorem dX3_digest_61 : decode cX3_digest 61 = .ok (.goto (-25), 3) := by decide +kernel
theorem dX3_digest_64 : decode cX3_digest 64 = .ok (.aload_n 0, 1) := by decide +kernel
theorem dX3_digest_65 : decode cX3_digest 65 = .ok (.aload_n 0, 1) := by decide +kernel
theorem dX3_digest_66 : decode cX3_digest 66 = .ok (.lload_n 1, 1) := by decide +kernel
theorem dX3_digest_67 : decode cX3_digest 67 = .ok (.invokevirtual 189, 3) := by decide +kernel
theorem dX3_digest_70 : decode cX3_digest 70 = .ok (.invokevirtual 193, 3) := by decide +kernel
theorem dX3_digest_73 : decode cX3_digest 73 = .ok (.lreturn, 1) := by decide +kernel
set_option maxRecDepth 20000 in
theorem ggX3_digestOfWeirs_X1_weirAt : GoodIn wsX3_digestOfWeirs wsX1_weirAt := goodIn_r _ [8, 9, 10, 26, 27, 28, 29, 30, 31, 32, 33, 34, 35] (by decide +kernel) (by decide +kernel)
set_option maxRecDepth 20000 in
theorem gX3_digestOfWeirs_X1_weirAt : GoodIn wsX3_digestOfWeirs (wsV RX3 43 RX1 yX1_weirAt wsX1_weirAt) := goodIn_app (goodIn_of _ (by decide +kernel)) ggX3_digestOfWeirs_X1_weirAt
set_option maxRecDepth 20000 in
theorem ggX3_digestOfWeirs_X2_fact : GoodIn wsX3_digestOfWeirs wsX2_fact := goodIn_r _ [15, 16, 17, 18, 19, 20, 21, 22, 23, 36, 37, 38, 39, 40, 41, 42, 43] (by decide +kernel) (by decide +kernel)
set_option maxRecDepth 20000 in
theorem gX3_digestOfWeirs_X2_fact : GoodIn wsX3_digestOfWeirs (wsV RX3 118 RX2 yX2_fact wsX2_fact) := goodIn_app (goodIn_of _ (by decide +kernel)) ggX3_digestOfWeirs_X2_fact
theorem dX3_digestOfWeirs_0 : decode cX3_digestOfWeirs 0 = .ok (.lload_n 1, 1) := by decide +kernel
theorem dX3_digestOfWeirs_1 : decode cX3_digestOfWeirs 1 = .ok (.lstore_n 3, 1) := by decide +kernel
theorem dX3_digestOfWeirs_2 : decode cX3_digestOfWeirs 2 = .ok (.iconst 0, 1) := by decide +kernel
theorem dX3_digestOfWeirs_3 : decode cX3_digestOfWeirs 3 = .ok (.istore 5, 2) := by decide +kernel
theorem dX3_digestOfWeirs_5 : decode cX3_digestOfWeirs 5 = .ok (.iload 5, 2) := by decide +kernel
theorem dX3_digestOfWeirs_7 : decode cX3_digestOfWeirs 7 = .ok (.aload_n 0, 1) := by decide +kernel
theorem dX3_digestOfWeirs_8 : decode cX3_digestOfWeirs 8 = .ok (.getfield 12, 3) := by decide +kernel
theorem dX3_digestOfWeirs_11 : decode cX3_digestOfWeirs 11 = .ok (.getfield 30, 3) := by decide +kernel
theorem dX3_digestOfWeirs_14 : decode cX3_digestOfWeirs 14 = .ok (.if_icmp .ge 56, 3) := by decide +kernel
theorem dX3_digestOfWeirs_17 : decode cX3_digestOfWeirs 17 = .ok (.aload_n 0, 1) := by decide +kernel
theorem dX3_digestOfWeirs_18 : decode cX3_digestOfWeirs 18 = .ok (.getfield 12, 3) := by decide +kernel
theorem dX3_digestOfWeirs_21 : decode cX3_digestOfWeirs 21 = .ok (.iload 5, 2) := by decide +kernel
theorem dX3_digestOfWeirs_23 : decode cX3_digestOfWeirs 23 = .ok (.invokevirtual 43, 3) := by decide +kernel
theorem dX3_digestOfWeirs_26 : decode cX3_digestOfWeirs 26 = .ok (.astore 6, 2) := by decide +kernel
theorem dX3_digestOfWeirs_28 : decode cX3_digestOfWeirs 28 = .ok (.iconst 0, 1) := by decide +kernel
theorem dX3_digestOfWeirs_29 : decode cX3_digestOfWeirs 29 = .ok (.istore 7, 2) := by decide +kernel
theorem dX3_digestOfWeirs_31 : decode cX3_digestOfWeirs 31 = .ok (.iload 7, 2) := by decide +kernel
theorem dX3_digestOfWeirs_33 : decode cX3_digestOfWeirs 33 = .ok (.bipush 7, 2) := by decide +kernel
theorem dX3_digestOfWeirs_35 : decode cX3_digestOfWeirs 35 = .ok (.if_icmp .gt 29, 3) := by decide +kernel
theorem dX3_digestOfWeirs_38 : decode cX3_digestOfWeirs 38 = .ok (.aload 6, 2) := by decide +kernel
theorem dX3_digestOfWeirs_40 : decode cX3_digestOfWeirs 40 = .ok (.ifnull 24, 3) := by decide +kernel
theorem dX3_digestOfWeirs_43 : decode cX3_digestOfWeirs 43 = .ok (.lload_n 3, 1) := by decide +kernel
theorem dX3_digestOfWeirs_44 : decode cX3_digestOfWeirs 44 = .ok (.ldc2_w 187, 3) := by decide +kernel
theorem dX3_digestOfWeirs_47 : decode cX3_digestOfWeirs 47 = .ok (.lmul, 1) := by decide +kernel
theorem dX3_digestOfWeirs_48 : decode cX3_digestOfWeirs 48 = .ok (.aload 6, 2) := by decide +kernel
theorem dX3_digestOfWeirs_50 : decode cX3_digestOfWeirs 50 = .ok (.iload 7, 2) := by decide +kernel
theorem dX3_digestOfWeirs_52 : decode cX3_digestOfWeirs 52 = .ok (.invokevirtual 118, 3) := by decide +kernel
theorem dX3_digestOfWeirs_55 : decode cX3_digestOfWeirs 55 = .ok (.i2l, 1) := by decide +kernel
theorem dX3_digestOfWeirs_56 : decode cX3_digestOfWeirs 56 = .ok (.ladd, 1) := by decide +kernel
theorem dX3_digestOfWeirs_57 : decode cX3_digestOfWeirs 57 = .ok (.lstore_n 3, 1) := by decide +kernel
theorem dX3_digestOfWeirs_58 : decode cX3_digestOfWeirs 58 = .ok (.iinc 7 1, 3) := by decide +kernel
theorem dX3_digestOfWeirs_61 : decode cX3_digestOfWeirs 61 = .ok (.goto (-30), 3) := by decide +kernel
theorem dX3_digestOfWeirs_64 : decode cX3_digestOfWeirs 64 = .ok (.iinc 5 1, 3) := by decide +kernel
theorem dX3_digestOfWeirs_67 : decode cX3_digestOfWeirs 67 = .ok (.goto (-62), 3) := by decide +kernel
theorem dX3_digestOfWeirs_70 : decode cX3_digestOfWeirs 70 = .ok (.lload_n 3, 1) := by decide +kernel
theorem dX3_digestOfWeirs_71 : decode cX3_digestOfWeirs 71 = .ok (.lreturn, 1) := by decide +kernel
set_option maxRecDepth 20000 in
theorem ggX3_digestOfBarges_X1_bargeAt : GoodIn wsX3_digestOfBarges wsX1_bargeAt := goodIn_r _ [8, 9, 10, 43, 44, 45, 46, 47, 48, 49, 50, 51, 52] (by decide +kernel) (by decide +kernel)
set_option maxRecDepth 20000 in
theorem gX3_digestOfBarges_X1_bargeAt : GoodIn wsX3_digestOfBarges (wsV RX3 121 RX1 yX1_bargeAt wsX1_bargeAt) := goodIn_app (goodIn_of _ (by decide +kernel)) ggX3_digestOfBarges_X1_bargeAt
set_option maxRecDepth 20000 in
theorem ggX3_digestOfBarges_X1_bargeFact : GoodIn wsX3_digestOfBarges wsX1_bargeFact := goodIn_r _ [14, 15, 16, 17, 18, 19, 20, 7, 21, 22, 23, 24, 25, 26, 27, 28, 29, 30, 31, 32, 33, 34, 35, 36, 37, 38, 39, 40, 53, 54, 55, 56, 43, 44, 45, 46, 47, 48, 49, 50, 51, 52, 57, 58, 59, 60, 61, 62, 63, 64] (by decide +kernel) (by decide +kernel)
set_option maxRecDepth 20000 in
theorem gX3_digestOfBarges_X1_bargeFact : GoodIn wsX3_digestOfBarges (wsV RX3 127 RX1 yX1_bargeFact wsX1_bargeFact) := goodIn_app (goodIn_of _ (by decide +kernel)) ggX3_digestOfBarges_X1_bargeFact
theorem dX3_digestOfBarges_0 : decode cX3_digestOfBarges 0 = .ok (.lload_n 1, 1) := by decide +kernel
theorem dX3_digestOfBarges_1 : decode cX3_digestOfBarges 1 = .ok (.lstore_n 3, 1) := by decide +kernel
theorem dX3_digestOfBarges_2 : decode cX3_digestOfBarges 2 = .ok (.iconst 0, 1) := by decide +kernel
theorem dX3_digestOfBarges_3 : decode cX3_digestOfBarges 3 = .ok (.istore 5, 2) := by decide +kernel
theorem dX3_digestOfBarges_5 : decode cX3_digestOfBarges 5 = .ok (.iload 5, 2) := by decide +kernel
theorem dX3_digestOfBarges_7 : decode cX3_digestOfBarges 7 = .ok (.aload_n 0, 1) := by decide +kernel
theorem dX3_digestOfBarges_8 : decode cX3_digestOfBarges 8 = .ok (.getfield 12, 3) := by decide +kernel
theorem dX3_digestOfBarges_11 : decode cX3_digestOfBarges 11 = .ok (.getfield 108, 3) := by decide +kernel
theorem dX3_digestOfBarges_14 : decode cX3_digestOfBarges 14 = .ok (.if_icmp .ge 59, 3) := by decide +kernel
theorem dX3_digestOfBarges_17 : decode cX3_digestOfBarges 17 = .ok (.aload_n 0, 1) := by decide +kernel
theorem dX3_digestOfBarges_18 : decode cX3_digestOfBarges 18 = .ok (.getfield 12, 3) := by decide +kernel
theorem dX3_digestOfBarges_21 : decode cX3_digestOfBarges 21 = .ok (.iload 5, 2) := by decide +kernel
theorem dX3_digestOfBarges_23 : decode cX3_digestOfBarges 23 = .ok (.invokevirtual 121, 3) := by decide +kernel
theorem dX3_digestOfBarges_26 : decode cX3_digestOfBarges 26 = .ok (.astore 6, 2) := by decide +kernel
theorem dX3_digestOfBarges_28 : decode cX3_digestOfBarges 28 = .ok (.iconst 0, 1) := by decide +kernel
theorem dX3_digestOfBarges_29 : decode cX3_digestOfBarges 29 = .ok (.istore 7, 2) := by decide +kernel
theorem dX3_digestOfBarges_31 : decode cX3_digestOfBarges 31 = .ok (.iload 7, 2) := by decide +kernel
theorem dX3_digestOfBarges_33 : decode cX3_digestOfBarges 33 = .ok (.iconst 3, 1) := by decide +kernel
theorem dX3_digestOfBarges_34 : decode cX3_digestOfBarges 34 = .ok (.if_icmp .gt 33, 3) := by decide +kernel
theorem dX3_digestOfBarges_37 : decode cX3_digestOfBarges 37 = .ok (.aload 6, 2) := by decide +kernel
theorem dX3_digestOfBarges_39 : decode cX3_digestOfBarges 39 = .ok (.ifnull 28, 3) := by decide +kernel
theorem dX3_digestOfBarges_42 : decode cX3_digestOfBarges 42 = .ok (.lload_n 3, 1) := by decide +kernel
theorem dX3_digestOfBarges_43 : decode cX3_digestOfBarges 43 = .ok (.ldc2_w 187, 3) := by decide +kernel
theorem dX3_digestOfBarges_46 : decode cX3_digestOfBarges 46 = .ok (.lmul, 1) := by decide +kernel
theorem dX3_digestOfBarges_47 : decode cX3_digestOfBarges 47 = .ok (.aload_n 0, 1) := by decide +kernel
theorem dX3_digestOfBarges_48 : decode cX3_digestOfBarges 48 = .ok (.getfield 12, 3) := by decide +kernel
theorem dX3_digestOfBarges_51 : decode cX3_digestOfBarges 51 = .ok (.aload 6, 2) := by decide +kernel
theorem dX3_digestOfBarges_53 : decode cX3_digestOfBarges 53 = .ok (.iload 7, 2) := by decide +kernel
theorem dX3_digestOfBarges_55 : decode cX3_digestOfBarges 55 = .ok (.invokevirtual 127, 3) := by decide +kernel
theorem dX3_digestOfBarges_58 : decode cX3_digestOfBarges 58 = .ok (.i2l, 1) := by decide +kernel
theorem dX3_digestOfBarges_59 : decode cX3_digestOfBarges 59 = .ok (.ladd, 1) := by decide +kernel
theorem dX3_digestOfBarges_60 : decode cX3_digestOfBarges 60 = .ok (.lstore_n 3, 1) := by decide +kernel
theorem dX3_digestOfBarges_61 : decode cX3_digestOfBarges 61 = .ok (.iinc 7 1, 3) := by decide +kernel
theorem dX3_digestOfBarges_64 : decode cX3_digestOfBarges 64 = .ok (.goto (-33), 3) := by decide +kernel
theorem dX3_digestOfBarges_67 : decode cX3_digestOfBarges 67 = .ok (.iinc 5 1, 3) := by decide +kernel
theorem dX3_digestOfBarges_70 : decode cX3_digestOfBarges 70 = .ok (.goto (-65), 3) := by decide +kernel
theorem dX3_digestOfBarges_73 : decode cX3_digestOfBarges 73 = .ok (.lload_n 3, 1) := by decide +kernel
theorem dX3_digestOfBarges_74 : decode cX3_digestOfBarges 74 = .ok (.lreturn, 1) := by decide +kernel
set_option maxRecDepth 20000 in
theorem ggX3_eelsWithStakes_X1_copyFrom : GoodIn wsX3_eelsWithStakes wsX1_copyFrom := goodIn_r _ [9, 10, 11, 12, 13, 14, 15, 16, 17, 18, 19, 20, 8, 21, 22, 23, 24, 25, 26, 27, 28, 29, 30, 31, 32, 33, 34, 35, 36, 37, 38, 39, 40, 41, 42, 43, 44, 45, 46, 47, 48, 49, 50, 51, 52, 53, 54, 55, 56, 57, 58, 59, 60, 61, 62, 63, 162, 163, 164, 165, 166, 167, 168, 169, 170, 171, 154, 155, 156, 157, 158, 159, 160, 161, 172, 173, 174, 175] (by decide +kernel) (by decide +kernel)
set_option maxRecDepth 20000 in
theorem gX3_eelsWithStakes_X1_copyFrom : GoodIn wsX3_eelsWithStakes (wsV RX3 149 RX1 yX1_copyFrom wsX1_copyFrom) := goodIn_app (goodIn_of _ (by decide +kernel)) ggX3_eelsWithStakes_X1_copyFrom
set_option maxRecDepth 20000 in
theorem ggX3_eelsWithStakes_X1_weirAt : GoodIn wsX3_eelsWithStakes wsX1_weirAt := goodIn_r _ [29, 12, 30, 162, 163, 164, 165, 166, 167, 168, 169, 170, 171] (by decide +kernel) (by decide +kernel)
set_option maxRecDepth 20000 in
theorem gX3_eelsWithStakes_X1_weirAt : GoodIn wsX3_eelsWithStakes (wsV RX3 43 RX1 yX1_weirAt wsX1_weirAt) := goodIn_app (goodIn_of _ (by decide +kernel)) ggX3_eelsWithStakes_X1_weirAt
set_option maxRecDepth 20000 in
theorem ggX3_eelsWithStakes_X1_goThroughNights : GoodIn wsX3_eelsWithStakes wsX1_goThroughNights := goodIn_r _ [68, 14, 69, 70, 71, 8, 72, 12, 73, 74, 75, 76, 77, 78, 79, 80, 18, 19, 20, 21, 10, 81, 82, 83, 84, 22, 23, 24, 25, 11, 26, 27, 28, 29, 30, 85, 86, 87, 37, 88, 46, 45, 89, 90, 91, 92, 40, 41, 44, 93, 94, 95, 96, 97, 98, 99, 100, 13, 101, 47, 48, 49, 50, 51, 102, 103, 104, 105, 106, 107, 108, 109, 110, 111, 112, 113, 114, 115, 58, 116, 62, 117, 118, 119, 120, 121, 16, 122, 123, 124, 125, 126, 43, 127, 128, 129, 130, 131, 132, 133, 134, 15, 52, 53, 54, 55, 56, 57, 59, 60, 61, 63, 135, 136, 137, 138, 139, 140, 141, 142, 143, 144, 145, 146, 147, 17, 148, 149, 150, 151, 42, 162, 163, 164, 165, 166, 167, 168, 169, 170, 171, 154, 155, 156, 157, 158, 159, 160, 161, 172, 173, 174, 175] (by decide +kernel) (by decide +kernel)
set_option maxRecDepth 20000 in
theorem gX3_eelsWithStakes_X1_goThroughNights : GoodIn wsX3_eelsWithStakes (wsV RX3 145 RX1 yX1_goThroughNights wsX1_goThroughNights) := goodIn_app (goodIn_of _ (by decide +kernel)) ggX3_eelsWithStakes_X1_goThroughNights
theorem dX3_eelsWithStakes_0 : decode cX3_eelsWithStakes 0 = .ok (.aload_n 0, 1) := by decide +kernel
theorem dX3_eelsWithStakes_1 : decode cX3_eelsWithStakes 1 = .ok (.getfield 16, 3) := by decide +kernel
theorem dX3_eelsWithStakes_4 : decode cX3_eelsWithStakes 4 = .ok (.aload_n 0, 1) := by decide +kernel
theorem dX3_eelsWithStakes_5 : decode cX3_eelsWithStakes 5 = .ok (.getfield 12, 3) := by decide +kernel
theorem dX3_eelsWithStakes_8 : decode cX3_eelsWithStakes 8 = .ok (.invokevirtual 149, 3) := by decide +kernel
theorem dX3_eelsWithStakes_11 : decode cX3_eelsWithStakes 11 = .ok (.aload_n 0, 1) := by decide +kernel
theorem dX3_eelsWithStakes_12 : decode cX3_eelsWithStakes 12 = .ok (.getfield 16, 3) := by decide +kernel
theorem dX3_eelsWithStakes_15 : decode cX3_eelsWithStakes 15 = .ok (.iload_n 1, 1) := by decide +kernel
theorem dX3_eelsWithStakes_16 : decode cX3_eelsWithStakes 16 = .ok (.invokevirtual 43, 3) := by decide +kernel
theorem dX3_eelsWithStakes_19 : decode cX3_eelsWithStakes 19 = .ok (.astore 4, 2) := by decide +kernel
theorem dX3_eelsWithStakes_21 : decode cX3_eelsWithStakes 21 = .ok (.aload 4, 2) := by decide +kernel
theorem dX3_eelsWithStakes_23 : decode cX3_eelsWithStakes 23 = .ok (.ifnonnull 5, 3) := by decide +kernel
theorem dX3_eelsWithStakes_26 : decode cX3_eelsWithStakes 26 = .ok (.iconst 0, 1) := by decide +kernel
theorem dX3_eelsWithStakes_27 : decode cX3_eelsWithStakes 27 = .ok (.ireturn, 1) := by decide +kernel
theorem dX3_eelsWithStakes_28 : decode cX3_eelsWithStakes 28 = .ok (.aload 4, 2) := by decide +kernel
theorem dX3_eelsWithStakes_30 : decode cX3_eelsWithStakes 30 = .ok (.iload_n 2, 1) := by decide +kernel
theorem dX3_eelsWithStakes_31 : decode cX3_eelsWithStakes 31 = .ok (.putfield 76, 3) := by decide +kernel
theorem dX3_eelsWithStakes_34 : decode cX3_eelsWithStakes 34 = .ok (.aload_n 0, 1) := by decide +kernel
theorem dX3_eelsWithStakes_35 : decode cX3_eelsWithStakes 35 = .ok (.getfield 16, 3) := by decide +kernel
theorem dX3_eelsWithStakes_38 : decode cX3_eelsWithStakes 38 = .ok (.iload_n 3, 1) := by decide +kernel
theorem dX3_eelsWithStakes_39 : decode cX3_eelsWithStakes 39 = .ok (.invokevirtual 145, 3) := by decide +kernel
theorem dX3_eelsWithStakes_42 : decode cX3_eelsWithStakes 42 = .ok (.aload 4, 2) := by decide +kernel
theorem dX3_eelsWithStakes_44 : decode cX3_eelsWithStakes 44 = .ok (.getfield 81, 3) := by decide +kernel
theorem dX3_eelsWithStakes_47 : decode cX3_eelsWithStakes 47 = .ok (.ireturn, 1) := by decide +kernel
theorem dX3_isWithin_0 : decode cX3_isWithin 0 = .ok (.iload_n 1, 1) := by decide +kernel
theorem dX3_isWithin_1 : decode cX3_isWithin 1 = .ok (.iload_n 0, 1) := by decide +kernel
theorem dX3_isWithin_2 : decode cX3_isWithin 2 = .ok (.if_icmp .gt 12, 3) := by decide +kernel
theorem dX3_isWithin_5 : decode cX3_isWithin 5 = .ok (.iload_n 0, 1) := by decide +kernel
theorem dX3_isWithin_6 : decode cX3_isWithin 6 = .ok (.iload_n 2, 1) := by decide +kernel
theorem dX3_isWithin_7 : decode cX3_isWithin 7 = .ok (.if_icmp .gt 7, 3) := by decide +kernel
theorem dX3_isWithin_10 : decode cX3_isWithin 10 = .ok (.iconst 1, 1) := by decide +kernel
theorem dX3_isWithin_11 : decode cX3_isWithin 11 = .ok (.goto 4, 3) := by decide +kernel
theorem dX3_isWithin_14 : decode cX3_isWithin 14 = .ok (.iconst 0, 1) := by decide +kernel
theorem dX3_isWithin_15 : decode cX3_isWithin 15 = .ok (.ireturn, 1) := by decide +kernel
theorem dX3_priceOfEels_0 : decode cX3_priceOfEels 0 = .ok (.iload_n 1, 1) := by decide +kernel
theorem dX3_priceOfEels_1 : decode cX3_priceOfEels 1 = .ok (.ifCond .ne 7, 3) := by decide +kernel
theorem dX3_priceOfEels_4 : decode cX3_priceOfEels 4 = .ok (.iload_n 0, 1) := by decide +kernel
theorem dX3_priceOfEels_5 : decode cX3_priceOfEels 5 = .ok (.iconst 2, 1) := by decide +kernel
theorem dX3_priceOfEels_6 : decode cX3_priceOfEels 6 = .ok (.idiv, 1) := by decide +kernel
theorem dX3_priceOfEels_7 : decode cX3_priceOfEels 7 = .ok (.ireturn, 1) := by decide +kernel
theorem dX3_priceOfEels_8 : decode cX3_priceOfEels 8 = .ok (.iload_n 1, 1) := by decide +kernel
theorem dX3_priceOfEels_9 : decode cX3_priceOfEels 9 = .ok (.iconst 1, 1) := by decide +kernel
theorem dX3_priceOfEels_10 : decode cX3_priceOfEels 10 = .ok (.if_icmp .ne 7, 3) := by decide +kernel
theorem dX3_priceOfEels_13 : decode cX3_priceOfEels 13 = .ok (.iload_n 0, 1) := by decide +kernel
theorem dX3_priceOfEels_14 : decode cX3_priceOfEels 14 = .ok (.goto 8, 3) := by decide +kernel
theorem dX3_priceOfEels_17 : decode cX3_priceOfEels 17 = .ok (.iload_n 0, 1) := by decide +kernel
theorem dX3_priceOfEels_18 : decode cX3_priceOfEels 18 = .ok (.iload_n 0, 1) := by decide +kernel
theorem dX3_priceOfEels_19 : decode cX3_priceOfEels 19 = .ok (.iconst 2, 1) := by decide +kernel
theorem dX3_priceOfEels_20 : decode cX3_priceOfEels 20 = .ok (.idiv, 1) := by decide +kernel
theorem dX3_priceOfEels_21 : decode cX3_priceOfEels 21 = .ok (.iadd, 1) := by decide +kernel
theorem dX3_priceOfEels_22 : decode cX3_priceOfEels 22 = .ok (.ireturn, 1) := by decide +kernel
theorem dX4_init_0 : decode cX4_init 0 = .ok (.aload_n 0, 1) := by decide +kernel
theorem dX4_init_1 : decode cX4_init 1 = .ok (.aload_n 1, 1) := by decide +kernel
theorem dX4_init_2 : decode cX4_init 2 = .ok (.putfield 3, 3) := by decide +kernel
theorem dX4_init_5 : decode cX4_init 5 = .ok (.aload_n 0, 1) := by decide +kernel
theorem dX4_init_6 : decode cX4_init 6 = .ok (.invokespecial 9, 3) := by decide +kernel
theorem dX4_init_9 : decode cX4_init 9 = .ok (.aload_n 0, 1) := by decide +kernel
theorem dX4_init_10 : decode cX4_init 10 = .ok (.bipush 6, 2) := by decide +kernel
theorem dX4_init_12 : decode cX4_init 12 = .ok (.newarray .int, 2) := by decide +kernel
theorem dX4_init_14 : decode cX4_init 14 = .ok (.putfield 15, 3) := by decide +kernel
theorem dX4_init_17 : decode cX4_init 17 = .ok (.aload_n 0, 1) := by decide +kernel
theorem dX4_init_18 : decode cX4_init 18 = .ok (.bipush 6, 2) := by decide +kernel
theorem dX4_init_20 : decode cX4_init 20 = .ok (.newarray .int, 2) := by decide +kernel
theorem dX4_init_22 : decode cX4_init 22 = .ok (.putfield 19, 3) := by decide +kernel
theorem dX4_init_25 : decode cX4_init 25 = .ok (.aload_n 0, 1) := by decide +kernel
theorem dX4_init_26 : decode cX4_init 26 = .ok (.bipush 6, 2) := by decide +kernel
theorem dX4_init_28 : decode cX4_init 28 = .ok (.newarray .int, 2) := by decide +kernel
theorem dX4_init_30 : decode cX4_init 30 = .ok (.putfield 22, 3) := by decide +kernel
theorem dX4_init_33 : decode cX4_init 33 = .ok (.aload_n 0, 1) := by decide +kernel
theorem dX4_init_34 : decode cX4_init 34 = .ok (.bipush 6, 2) := by decide +kernel
theorem dX4_init_36 : decode cX4_init 36 = .ok (.newarray .int, 2) := by decide +kernel
theorem dX4_init_38 : decode cX4_init 38 = .ok (.putfield 25, 3) := by decide +kernel
theorem dX4_init_41 : decode cX4_init 41 = .ok (.aload_n 0, 1) := by decide +kernel
theorem dX4_init_42 : decode cX4_init 42 = .ok (.bipush 6, 2) := by decide +kernel
theorem dX4_init_44 : decode cX4_init 44 = .ok (.newarray .int, 2) := by decide +kernel
theorem dX4_init_46 : decode cX4_init 46 = .ok (.putfield 28, 3) := by decide +kernel
theorem dX4_init_49 : decode cX4_init 49 = .ok (.aload_n 0, 1) := by decide +kernel
theorem dX4_init_50 : decode cX4_init 50 = .ok (.bipush 6, 2) := by decide +kernel
theorem dX4_init_52 : decode cX4_init 52 = .ok (.newarray .int, 2) := by decide +kernel
theorem dX4_init_54 : decode cX4_init 54 = .ok (.putfield 31, 3) := by decide +kernel
theorem dX4_init_57 : decode cX4_init 57 = .ok (.aload_n 0, 1) := by decide +kernel
theorem dX4_init_58 : decode cX4_init 58 = .ok (.iconst 5, 1) := by decide +kernel
theorem dX4_init_59 : decode cX4_init 59 = .ok (.newarray .int, 2) := by decide +kernel
theorem dX4_init_61 : decode cX4_init 61 = .ok (.putfield 34, 3) := by decide +kernel
theorem dX4_init_64 : decode cX4_init 64 = .ok (.aload_n 0, 1) := by decide +kernel
theorem dX4_init_65 : decode cX4_init 65 = .ok (.iconst 5, 1) := by decide +kernel
theorem dX4_init_66 : decode cX4_init 66 = .ok (.newarray .int, 2) := by decide +kernel
theorem dX4_init_68 : decode cX4_init 68 = .ok (.putfield 37, 3) := by decide +kernel
theorem dX4_init_71 : decode cX4_init 71 = .ok (.aload_n 0, 1) := by decide +kernel
theorem dX4_init_72 : decode cX4_init 72 = .ok (.iconst 5, 1) := by decide +kernel
theorem dX4_init_73 : decode cX4_init 73 = .ok (.newarray .int, 2) := by decide +kernel
theorem dX4_init_75 : decode cX4_init 75 = .ok (.putfield 40, 3) := by decide +kernel
theorem dX4_init_78 : decode cX4_init 78 = .ok (.aload_n 0, 1) := by decide +kernel
theorem dX4_init_79 : decode cX4_init 79 = .ok (.iconst 5, 1) := by decide +kernel
theorem dX4_init_80 : decode cX4_init 80 = .ok (.newarray .int, 2) := by decide +kernel
theorem dX4_init_82 : decode cX4_init 82 = .ok (.putfield 43, 3) := by decide +kernel
theorem dX4_init_85 : decode cX4_init 85 = .ok (.return_, 1) := by decide +kernel
theorem dX4_copy_0 : decode cX4_copy 0 = .ok (.aload_n 1, 1) := by decide +kernel
theorem dX4_copy_1 : decode cX4_copy 1 = .ok (.iconst 0, 1) := by decide +kernel
theorem dX4_copy_2 : decode cX4_copy 2 = .ok (.aload_n 2, 1) := by decide +kernel
theorem dX4_copy_3 : decode cX4_copy 3 = .ok (.iconst 0, 1) := by decide +kernel
theorem dX4_copy_4 : decode cX4_copy 4 = .ok (.aload_n 1, 1) := by decide +kernel
theorem dX4_copy_5 : decode cX4_copy 5 = .ok (.arraylength, 1) := by decide +kernel
theorem dX4_copy_6 : decode cX4_copy 6 = .ok (.invokestatic 46, 3) := by decide +kernel
theorem dX4_copy_9 : decode cX4_copy 9 = .ok (.return_, 1) := by decide +kernel
set_option maxRecDepth 20000 in
theorem ggX4_become_X4_copy : GoodIn wsX4_become wsX4_copy := goodIn_r _ [20, 21, 22, 23, 24] (by decide +kernel) (by decide +kernel)
set_option maxRecDepth 20000 in
theorem gX4_become_X4_copy : GoodIn wsX4_become (wsV RX4 68 RX4 yX4_copy wsX4_copy) := goodIn_app (goodIn_of _ (by decide +kernel)) ggX4_become_X4_copy
theorem dX4_become_0 : decode cX4_become 0 = .ok (.aload_n 0, 1) := by decide +kernel
theorem dX4_become_1 : decode cX4_become 1 = .ok (.aload_n 1, 1) := by decide +kernel
theorem dX4_become_2 : decode cX4_become 2 = .ok (.getfield 52, 3) := by decide +kernel
theorem dX4_become_5 : decode cX4_become 5 = .ok (.putfield 52, 3) := by decide +kernel
theorem dX4_become_8 : decode cX4_become 8 = .ok (.aload_n 0, 1) := by decide +kernel
theorem dX4_become_9 : decode cX4_become 9 = .ok (.aload_n 1, 1) := by decide +kernel
theorem dX4_become_10 : decode cX4_become 10 = .ok (.getfield 56, 3) := by decide +kernel
theorem dX4_become_13 : decode cX4_become 13 = .ok (.putfield 56, 3) := by decide +kernel
theorem dX4_become_16 : decode cX4_become 16 = .ok (.aload_n 0, 1) := by decide +kernel
theorem dX4_become_17 : decode cX4_become 17 = .ok (.aload_n 1, 1) := by decide +kernel
theorem dX4_become_18 : decode cX4_become 18 = .ok (.getfield 59, 3) := by decide +kernel
theorem dX4_become_21 : decode cX4_become 21 = .ok (.putfield 59, 3) := by decide +kernel
theorem dX4_become_24 : decode cX4_become 24 = .ok (.aload_n 0, 1) := by decide +kernel
theorem dX4_become_25 : decode cX4_become 25 = .ok (.aload_n 1, 1) := by decide +kernel
theorem dX4_become_26 : decode cX4_become 26 = .ok (.getfield 62, 3) := by decide +kernel
theorem dX4_become_29 : decode cX4_become 29 = .ok (.putfield 62, 3) := by decide +kernel
theorem dX4_become_32 : decode cX4_become 32 = .ok (.aload_n 0, 1) := by decide +kernel
theorem dX4_become_33 : decode cX4_become 33 = .ok (.aload_n 1, 1) := by decide +kernel
theorem dX4_become_34 : decode cX4_become 34 = .ok (.getfield 65, 3) := by decide +kernel
theorem dX4_become_37 : decode cX4_become 37 = .ok (.putfield 65, 3) := by decide +kernel
theorem dX4_become_40 : decode cX4_become 40 = .ok (.aload_n 0, 1) := by decide +kernel
theorem dX4_become_41 : decode cX4_become 41 = .ok (.aload_n 1, 1) := by decide +kernel
theorem dX4_become_42 : decode cX4_become 42 = .ok (.getfield 15, 3) := by decide +kernel
theorem dX4_become_45 : decode cX4_become 45 = .ok (.aload_n 0, 1) := by decide +kernel
theorem dX4_become_46 : decode cX4_become 46 = .ok (.getfield 15, 3) := by decide +kernel
theorem dX4_become_49 : decode cX4_become 49 = .ok (.invokevirtual 68, 3) := by decide +kernel
theorem dX4_become_52 : decode cX4_become 52 = .ok (.aload_n 0, 1) := by decide +kernel
theorem dX4_become_53 : decode cX4_become 53 = .ok (.aload_n 1, 1) := by decide +kernel
theorem dX4_become_54 : decode cX4_become 54 = .ok (.getfield 19, 3) := by decide +kernel
theorem dX4_become_57 : decode cX4_become 57 = .ok (.aload_n 0, 1) := by decide +kernel
theorem dX4_become_58 : decode cX4_become 58 = .ok (.getfield 19, 3) := by decide +kernel
theorem dX4_become_61 : decode cX4_become 61 = .ok (.invokevirtual 68, 3) := by decide +kernel
theorem dX4_become_64 : decode cX4_become 64 = .ok (.aload_n 0, 1) := by decide +kernel
theorem dX4_become_65 : decode cX4_become 65 = .ok (.aload_n 1, 1) := by decide +kernel
theorem dX4_become_66 : decode cX4_become 66 = .ok (.getfield 22, 3) := by decide +kernel
theorem dX4_become_69 : decode cX4_become 69 = .ok (.aload_n 0, 1) := by decide +kernel
theorem dX4_become_70 : decode cX4_become 70 = .ok (.getfield 22, 3) := by decide +kernel
theorem dX4_become_73 : decode cX4_become 73 = .ok (.invokevirtual 68, 3) := by decide +kernel
theorem dX4_become_76 : decode cX4_become 76 = .ok (.aload_n 0, 1) := by decide +kernel
theorem dX4_become_77 : decode cX4_become 77 = .ok (.aload_n 1, 1) := by decide +kernel
theorem dX4_become_78 : decode cX4_become 78 = .ok (.getfield 25, 3) := by decide +kernel
theorem dX4_become_81 : decode cX4_become 81 = .ok (.aload_n 0, 1) := by decide +kernel
theorem dX4_become_82 : decode cX4_become 82 = .ok (.getfield 25, 3) := by decide +kernel
theorem dX4_become_85 : decode cX4_become 85 = .ok (.invokevirtual 68, 3) := by decide +kernel
theorem dX4_become_88 : decode cX4_become 88 = .ok (.aload_n 0, 1) := by decide +kernel
theorem dX4_become_89 : decode cX4_become 89 = .ok (.aload_n 1, 1) := by decide +kernel
theorem dX4_become_90 : decode cX4_become 90 = .ok (.getfield 28, 3) := by decide +kernel
theorem dX4_become_93 : decode cX4_become 93 = .ok (.aload_n 0, 1) := by decide +kernel
theorem dX4_become_94 : decode cX4_become 94 = .ok (.getfield 28, 3) := by decide +kernel
theorem dX4_become_97 : decode cX4_become 97 = .ok (.invokevirtual 68, 3) := by decide +kernel
theorem dX4_become_100 : decode cX4_become 100 = .ok (.aload_n 0, 1) := by decide +kernel
theorem dX4_become_101 : decode cX4_become 101 = .ok (.aload_n 1, 1) := by decide +kernel
theorem dX4_become_102 : decode cX4_become 102 = .ok (.getfield 31, 3) := by decide +kernel
theorem dX4_become_105 : decode cX4_become 105 = .ok (.aload_n 0, 1) := by decide +kernel
theorem dX4_become_106 : decode cX4_become 106 = .ok (.getfield 31, 3) := by decide +kernel
theorem dX4_become_109 : decode cX4_become 109 = .ok (.invokevirtual 68, 3) := by decide +kernel
theorem dX4_become_112 : decode cX4_become 112 = .ok (.aload_n 0, 1) := by decide +kernel
theorem dX4_become_113 : decode cX4_become 113 = .ok (.aload_n 1, 1) := by decide +kernel
theorem dX4_become_114 : decode cX4_become 114 = .ok (.getfield 34, 3) := by decide +kernel
theorem dX4_become_117 : decode cX4_become 117 = .ok (.aload_n 0, 1) := by decide +kernel
theorem dX4_become_118 : decode cX4_become 118 = .ok (.getfield 34, 3) := by decide +kernel
theorem dX4_become_121 : decode cX4_become 121 = .ok (.invokevirtual 68, 3) := by decide +kernel
theorem dX4_become_124 : decode cX4_become 124 = .ok (.aload_n 0, 1) := by decide +kernel
theorem dX4_become_125 : decode cX4_become 125 = .ok (.aload_n 1, 1) := by decide +kernel
theorem dX4_become_126 : decode cX4_become 126 = .ok (.getfield 37, 3) := by decide +kernel
theorem dX4_become_129 : decode cX4_become 129 = .ok (.aload_n 0, 1) := by decide +kernel
theorem dX4_become_130 : decode cX4_become 130 = .ok (.getfield 37, 3) := by decide +kernel
theorem dX4_become_133 : decode cX4_become 133 = .ok (.invokevirtual 68, 3) := by decide +kernel
theorem dX4_become_136 : decode cX4_become 136 = .ok (.aload_n 0, 1) := by decide +kernel
theorem dX4_become_137 : decode cX4_become 137 = .ok (.aload_n 1, 1) := by decide +kernel
theorem dX4_become_138 : decode cX4_become 138 = .ok (.getfield 40, 3) := by decide +kernel
theorem dX4_become_141 : decode cX4_become 141 = .ok (.aload_n 0, 1) := by decide +kernel
theorem dX4_become_142 : decode cX4_become 142 = .ok (.getfield 40, 3) := by decide +kernel
theorem dX4_become_145 : decode cX4_become 145 = .ok (.invokevirtual 68, 3) := by decide +kernel
theorem dX4_become_148 : decode cX4_become 148 = .ok (.iconst 0, 1) := by decide +kernel
theorem dX4_become_149 : decode cX4_become 149 = .ok (.istore_n 2, 1) := by decide +kernel
theorem dX4_become_150 : decode cX4_become 150 = .ok (.iload_n 2, 1) := by decide +kernel
theorem dX4_become_151 : decode cX4_become 151 = .ok (.iconst 5, 1) := by decide +kernel
theorem dX4_become_152 : decode cX4_become 152 = .ok (.if_icmp .ge 16, 3) := by decide +kernel
theorem dX4_become_155 : decode cX4_become 155 = .ok (.aload_n 0, 1) := by decide +kernel
theorem dX4_become_156 : decode cX4_become 156 = .ok (.getfield 43, 3) := by decide +kernel
theorem dX4_become_159 : decode cX4_become 159 = .ok (.iload_n 2, 1) := by decide +kernel
theorem dX4_become_160 : decode cX4_become 160 = .ok (.iload_n 2, 1) := by decide +kernel
theorem dX4_become_161 : decode cX4_become 161 = .ok (.iastore, 1) := by decide +kernel
theorem dX4_become_162 : decode cX4_become 162 = .ok (.iinc 2 1, 3) := by decide +kernel
theorem dX4_become_165 : decode cX4_become 165 = .ok (.goto (-15), 3) := by decide +kernel
theorem dX4_become_168 : decode cX4_become 168 = .ok (.aload_n 0, 1) := by decide +kernel
theorem dX4_become_169 : decode cX4_become 169 = .ok (.areturn, 1) := by decide +kernel
theorem dX4_isHeld_0 : decode cX4_isHeld 0 = .ok (.aload_n 0, 1) := by decide +kernel
theorem dX4_isHeld_1 : decode cX4_isHeld 1 = .ok (.getfield 31, 3) := by decide +kernel
theorem dX4_isHeld_4 : decode cX4_isHeld 4 = .ok (.iload_n 1, 1) := by decide +kernel
theorem dX4_isHeld_5 : decode cX4_isHeld 5 = .ok (.iaload, 1) := by decide +kernel
theorem dX4_isHeld_6 : decode cX4_isHeld 6 = .ok (.iconst 3, 1) := by decide +kernel
theorem dX4_isHeld_7 : decode cX4_isHeld 7 = .ok (.if_icmp .ge 7, 3) := by decide +kernel
theorem dX4_isHeld_10 : decode cX4_isHeld 10 = .ok (.iconst 1, 1) := by decide +kernel
theorem dX4_isHeld_11 : decode cX4_isHeld 11 = .ok (.goto 4, 3) := by decide +kernel
theorem dX4_isHeld_14 : decode cX4_isHeld 14 = .ok (.iconst 0, 1) := by decide +kernel
theorem dX4_isHeld_15 : decode cX4_isHeld 15 = .ok (.ireturn, 1) := by decide +kernel
theorem dX4_moon_0 : decode cX4_moon 0 = .ok (.aload_n 0, 1) := by decide +kernel
theorem dX4_moon_1 : decode cX4_moon 1 = .ok (.getfield 52, 3) := by decide +kernel
theorem dX4_moon_4 : decode cX4_moon 4 = .ok (.bipush 28, 2) := by decide +kernel
theorem dX4_moon_6 : decode cX4_moon 6 = .ok (.irem, 1) := by decide +kernel
theorem dX4_moon_7 : decode cX4_moon 7 = .ok (.istore_n 1, 1) := by decide +kernel
theorem dX4_moon_8 : decode cX4_moon 8 = .ok (.iload_n 1, 1) := by decide +kernel
theorem dX4_moon_9 : decode cX4_moon 9 = .ok (.iconst 3, 1) := by decide +kernel
theorem dX4_moon_10 : decode cX4_moon 10 = .ok (.if_icmp .le 9, 3) := by decide +kernel
theorem dX4_moon_13 : decode cX4_moon 13 = .ok (.iload_n 1, 1) := by decide +kernel
theorem dX4_moon_14 : decode cX4_moon 14 = .ok (.bipush 25, 2) := by decide +kernel
theorem dX4_moon_16 : decode cX4_moon 16 = .ok (.if_icmp .lt 7, 3) := by decide +kernel
theorem dX4_moon_19 : decode cX4_moon 19 = .ok (.iconst 0, 1) := by decide +kernel
theorem dX4_moon_20 : decode cX4_moon 20 = .ok (.goto 20, 3) := by decide +kernel
theorem dX4_moon_23 : decode cX4_moon 23 = .ok (.iload_n 1, 1) := by decide +kernel
theorem dX4_moon_24 : decode cX4_moon 24 = .ok (.bipush 9, 2) := by decide +kernel
theorem dX4_moon_26 : decode cX4_moon 26 = .ok (.if_icmp .le 9, 3) := by decide +kernel
theorem dX4_moon_29 : decode cX4_moon 29 = .ok (.iload_n 1, 1) := by decide +kernel
theorem dX4_moon_30 : decode cX4_moon 30 = .ok (.bipush 19, 2) := by decide +kernel
theorem dX4_moon_32 : decode cX4_moon 32 = .ok (.if_icmp .lt 7, 3) := by decide +kernel
theorem dX4_moon_35 : decode cX4_moon 35 = .ok (.iconst 1, 1) := by decide +kernel
theorem dX4_moon_36 : decode cX4_moon 36 = .ok (.goto 4, 3) := by decide +kernel
theorem dX4_moon_39 : decode cX4_moon 39 = .ok (.iconst 2, 1) := by decide +kernel
theorem dX4_moon_40 : decode cX4_moon 40 = .ok (.ireturn, 1) := by decide +kernel
set_option maxRecDepth 20000 in
theorem ggX4_run_X4_moon : GoodIn wsX4_run wsX4_moon := goodIn_r _ [7, 2, 8, 9, 10, 11, 12, 13, 14, 15, 16, 17, 18, 19, 20, 21, 22, 23] (by decide +kernel) (by decide +kernel)
set_option maxRecDepth 20000 in
theorem gX4_run_X4_moon : GoodIn wsX4_run (wsV RX4 75 RX4 yX4_moon wsX4_moon) := goodIn_app (goodIn_of _ (by decide +kernel)) ggX4_run_X4_moon
theorem dX4_run_0 : decode cX4_run 0 = .ok (.aload_n 0, 1) := by decide +kernel
theorem dX4_run_1 : decode cX4_run 1 = .ok (.getfield 3, 3) := by decide +kernel
theorem dX4_run_4 : decode cX4_run 4 = .ok (.getfield 72, 3) := by decide +kernel
theorem dX4_run_7 : decode cX4_run 7 = .ok (.aload_n 0, 1) := by decide +kernel
theorem dX4_run_8 : decode cX4_run 8 = .ok (.getfield 52, 3) := by decide +kernel
theorem dX4_run_11 : decode cX4_run 11 = .ok (.bipush 7, 2) := by decide +kernel
theorem dX4_run_13 : decode cX4_run 13 = .ok (.irem, 1) := by decide +kernel
theorem dX4_run_14 : decode cX4_run 14 = .ok (.iaload, 1) := by decide +kernel
theorem dX4_run_15 : decode cX4_run 15 = .ok (.iconst 3, 1) := by decide +kernel
theorem dX4_run_16 : decode cX4_run 16 = .ok (.aload_n 0, 1) := by decide +kernel
theorem dX4_run_17 : decode cX4_run 17 = .ok (.invokevirtual 75, 3) := by decide +kernel
theorem dX4_run_20 : decode cX4_run 20 = .ok (.isub, 1) := by decide +kernel
theorem dX4_run_21 : decode cX4_run 21 = .ok (.imul, 1) := by decide +kernel
theorem dX4_run_22 : decode cX4_run 22 = .ok (.ireturn, 1) := by decide +kernel
set_option maxRecDepth 20000 in
theorem ggX4_isInWay_X4_isHeld : GoodIn wsX4_isInWay wsX4_isHeld := goodIn_r _ [7, 8, 9, 10, 11, 12, 13, 14, 15, 16, 17, 18, 19, 20, 21, 22, 23, 24] (by decide +kernel) (by decide +kernel)
set_option maxRecDepth 20000 in
theorem gX4_isInWay_X4_isHeld : GoodIn wsX4_isInWay (wsV RX4 79 RX4 yX4_isHeld wsX4_isHeld) := goodIn_app (goodIn_of _ (by decide +kernel)) ggX4_isInWay_X4_isHeld
theorem dX4_isInWay_0 : decode cX4_isInWay 0 = .ok (.aload_n 0, 1) := by decide +kernel
theorem dX4_isInWay_1 : decode cX4_isInWay 1 = .ok (.iload_n 1, 1) := by decide +kernel
theorem dX4_isInWay_2 : decode cX4_isInWay 2 = .ok (.invokevirtual 79, 3) := by decide +kernel
theorem dX4_isInWay_5 : decode cX4_isInWay 5 = .ok (.ifCond .eq 29, 3) := by decide +kernel
theorem dX4_isInWay_8 : decode cX4_isInWay 8 = .ok (.aload_n 0, 1) := by decide +kernel
theorem dX4_isInWay_9 : decode cX4_isInWay 9 = .ok (.getfield 28, 3) := by decide +kernel
theorem dX4_isInWay_12 : decode cX4_isInWay 12 = .ok (.iload_n 1, 1) := by decide +kernel
theorem dX4_isInWay_13 : decode cX4_isInWay 13 = .ok (.iaload, 1) := by decide +kernel
theorem dX4_isInWay_14 : decode cX4_isInWay 14 = .ok (.ifCond .ne 20, 3) := by decide +kernel
theorem dX4_isInWay_17 : decode cX4_isInWay 17 = .ok (.aload_n 0, 1) := by decide +kernel
theorem dX4_isInWay_18 : decode cX4_isInWay 18 = .ok (.getfield 15, 3) := by decide +kernel
theorem dX4_isInWay_21 : decode cX4_isInWay 21 = .ok (.iload_n 1, 1) := by decide +kernel
theorem dX4_isInWay_22 : decode cX4_isInWay 22 = .ok (.iaload, 1) := by decide +kernel
theorem dX4_isInWay_23 : decode cX4_isInWay 23 = .ok (.bipush 30, 2) := by decide +kernel
theorem dX4_isInWay_25 : decode cX4_isInWay 25 = .ok (.iload_n 2, 1) := by decide +kernel
theorem dX4_isInWay_26 : decode cX4_isInWay 26 = .ok (.isub, 1) := by decide +kernel
theorem dX4_isInWay_27 : decode cX4_isInWay 27 = .ok (.if_icmp .le 7, 3) := by decide +kernel
theorem dX4_isInWay_30 : decode cX4_isInWay 30 = .ok (.iconst 1, 1) := by decide +kernel
theorem dX4_isInWay_31 : decode cX4_isInWay 31 = .ok (.goto 4, 3) := by decide +kernel
theorem dX4_isInWay_34 : decode cX4_isInWay 34 = .ok (.iconst 0, 1) := by decide +kernel
theorem dX4_isInWay_35 : decode cX4_isInWay 35 = .ok (.ireturn, 1) := by decide +kernel
set_option maxRecDepth 20000 in
theorem ggX4_runDown_X4_run : GoodIn wsX4_runDown wsX4_run := goodIn_r _ [14, 1, 15, 16, 17, 18, 13, 19, 25, 26, 27, 28, 29, 30, 31, 32, 33, 34, 35, 36, 37, 38, 39, 40, 41, 42, 43, 44, 45, 46, 47] (by decide +kernel) (by decide +kernel)
set_option maxRecDepth 20000 in
theorem gX4_runDown_X4_run : GoodIn wsX4_runDown (wsV RX4 83 RX4 yX4_run wsX4_run) := goodIn_app (goodIn_of _ (by decide +kernel)) ggX4_runDown_X4_run
set_option maxRecDepth 20000 in
theorem ggX4_runDown_X4_isHeld : GoodIn wsX4_runDown wsX4_isHeld := goodIn_r _ [23, 24, 25, 26, 27, 28, 29, 30, 31, 32, 33, 34, 35, 36, 37, 38, 39, 40] (by decide +kernel) (by decide +kernel)
set_option maxRecDepth 20000 in
theorem gX4_runDown_X4_isHeld : GoodIn wsX4_runDown (wsV RX4 79 RX4 yX4_isHeld wsX4_isHeld) := goodIn_app (goodIn_of _ (by decide +kernel)) ggX4_runDown_X4_isHeld
theorem dX4_runDown_0 : decode cX4_runDown 0 = .ok (.aload_n 0, 1) := by decide +kernel
theorem dX4_runDown_1 : decode cX4_runDown 1 = .ok (.invokevirtual 83, 3) := by decide +kernel
theorem dX4_runDown_4 : decode cX4_runDown 4 = .ok (.istore_n 2, 1) := by decide +kernel
theorem dX4_runDown_5 : decode cX4_runDown 5 = .ok (.iconst 0, 1) := by decide +kernel
theorem dX4_runDown_6 : decode cX4_runDown 6 = .ok (.istore_n 3, 1) := by decide +kernel
theorem dX4_runDown_7 : decode cX4_runDown 7 = .ok (.bipush 39, 2) := by decide +kernel
theorem dX4_runDown_9 : decode cX4_runDown 9 = .ok (.istore 4, 2) := by decide +kernel
theorem dX4_runDown_11 : decode cX4_runDown 11 = .ok (.iload 4, 2) := by decide +kernel
theorem dX4_runDown_13 : decode cX4_runDown 13 = .ok (.ifCond .lt 137, 3) := by decide +kernel
theorem dX4_runDown_16 : decode cX4_runDown 16 = .ok (.iconst 0, 1) := by decide +kernel
theorem dX4_runDown_17 : decode cX4_runDown 17 = .ok (.istore 5, 2) := by decide +kernel
theorem dX4_runDown_19 : decode cX4_runDown 19 = .ok (.iload 5, 2) := by decide +kernel
theorem dX4_runDown_21 : decode cX4_runDown 21 = .ok (.aload_n 0, 1) := by decide +kernel
theorem dX4_runDown_22 : decode cX4_runDown 22 = .ok (.getfield 3, 3) := by decide +kernel
theorem dX4_runDown_25 : decode cX4_runDown 25 = .ok (.getfield 86, 3) := by decide +kernel
theorem dX4_runDown_28 : decode cX4_runDown 28 = .ok (.if_icmp .ge 116, 3) := by decide +kernel
theorem dX4_runDown_31 : decode cX4_runDown 31 = .ok (.aload_n 0, 1) := by decide +kernel
theorem dX4_runDown_32 : decode cX4_runDown 32 = .ok (.getfield 3, 3) := by decide +kernel
theorem dX4_runDown_35 : decode cX4_runDown 35 = .ok (.getfield 89, 3) := by decide +kernel
theorem dX4_runDown_38 : decode cX4_runDown 38 = .ok (.iload 5, 2) := by decide +kernel
theorem dX4_runDown_40 : decode cX4_runDown 40 = .ok (.iaload, 1) := by decide +kernel
theorem dX4_runDown_41 : decode cX4_runDown 41 = .ok (.iload 4, 2) := by decide +kernel
theorem dX4_runDown_43 : decode cX4_runDown 43 = .ok (.if_icmp .ne 95, 3) := by decide +kernel
theorem dX4_runDown_46 : decode cX4_runDown 46 = .ok (.aload_n 0, 1) := by decide +kernel
theorem dX4_runDown_47 : decode cX4_runDown 47 = .ok (.iload 5, 2) := by decide +kernel
theorem dX4_runDown_49 : decode cX4_runDown 49 = .ok (.invokevirtual 79, 3) := by decide +kernel
theorem dX4_runDown_52 : decode cX4_runDown 52 = .ok (.ifCond .eq 86, 3) := by decide +kernel
theorem dX4_runDown_55 : decode cX4_runDown 55 = .ok (.aload_n 0, 1) := by decide +kernel
theorem dX4_runDown_56 : decode cX4_runDown 56 = .ok (.getfield 28, 3) := by decide +kernel
theorem dX4_runDown_59 : decode cX4_runDown 59 = .ok (.iload 5, 2) := by decide +kernel
theorem dX4_runDown_61 : decode cX4_runDown 61 = .ok (.iaload, 1) := by decide +kernel
theorem dX4_runDown_62 : decode cX4_runDown 62 = .ok (.iconst 1, 1) := by decide +kernel
theorem dX4_runDown_63 : decode cX4_runDown 63 = .ok (.if_icmp .ne 6, 3) := by decide +kernel
theorem dX4_runDown_66 : decode cX4_runDown 66 = .ok (.goto 72, 3) := by decide +kernel
theorem dX4_runDown_69 : decode cX4_runDown 69 = .ok (.iload_n 2, 1) := by decide +kernel
theorem dX4_runDown_70 : decode cX4_runDown 70 = .ok (.aload_n 0, 1) := by decide +kernel
theorem dX4_runDown_71 : decode cX4_runDown 71 = .ok (.getfield 15, 3) := by decide +kernel
theorem dX4_runDown_74 : decode cX4_runDown 74 = .ok (.iload 5, 2) := by decide +kernel
theorem dX4_runDown_76 : decode cX4_runDown 76 = .ok (.iaload, 1) := by decide +kernel
theorem dX4_runDown_77 : decode cX4_runDown 77 = .ok (.imul, 1) := by decide +kernel
theorem dX4_runDown_78 : decode cX4_runDown 78 = .ok (.aload_n 0, 1) := by decide +kernel
theorem dX4_runDown_79 : decode cX4_runDown 79 = .ok (.getfield 19, 3) := by decide +kernel
theorem dX4_runDown_82 : decode cX4_runDown 82 = .ok (.iload 5, 2) := by decide +kernel
theorem dX4_runDown_84 : decode cX4_runDown 84 = .ok (.iaload, 1) := by decide +kernel
theorem dX4_runDown_85 : decode cX4_runDown 85 = .ok (.imul, 1) := by decide +kernel
theorem dX4_runDown_86 : decode cX4_runDown 86 = .ok (.sipush 3000, 3) := by decide +kernel
theorem dX4_runDown_89 : decode cX4_runDown 89 = .ok (.idiv, 1) := by decide +kernel
theorem dX4_runDown_90 : decode cX4_runDown 90 = .ok (.sipush 200, 3) := by decide +kernel
theorem dX4_runDown_93 : decode cX4_runDown 93 = .ok (.aload_n 0, 1) := by decide +kernel
theorem dX4_runDown_94 : decode cX4_runDown 94 = .ok (.getfield 25, 3) := by decide +kernel
theorem dX4_runDown_97 : decode cX4_runDown 97 = .ok (.iload 5, 2) := by decide +kernel
theorem dX4_runDown_99 : decode cX4_runDown 99 = .ok (.iaload, 1) := by decide +kernel
theorem dX4_runDown_100 : decode cX4_runDown 100 = .ok (.isub, 1) := by decide +kernel
theorem dX4_runDown_101 : decode cX4_runDown 101 = .ok (.invokestatic 92, 3) := by decide +kernel
theorem dX4_runDown_104 : decode cX4_runDown 104 = .ok (.istore 6, 2) := by decide +kernel
theorem dX4_runDown_106 : decode cX4_runDown 106 = .ok (.iload_n 2, 1) := by decide +kernel
theorem dX4_runDown_107 : decode cX4_runDown 107 = .ok (.iload 6, 2) := by decide +kernel
theorem dX4_runDown_109 : decode cX4_runDown 109 = .ok (.isub, 1) := by decide +kernel
theorem dX4_runDown_110 : decode cX4_runDown 110 = .ok (.istore_n 2, 1) := by decide +kernel
theorem dX4_runDown_111 : decode cX4_runDown 111 = .ok (.aload_n 0, 1) := by decide +kernel
theorem dX4_runDown_112 : decode cX4_runDown 112 = .ok (.getfield 25, 3) := by decide +kernel
theorem dX4_runDown_115 : decode cX4_runDown 115 = .ok (.iload 5, 2) := by decide +kernel
theorem dX4_runDown_117 : decode cX4_runDown 117 = .ok (.dup2, 1) := by decide +kernel
theorem dX4_runDown_118 : decode cX4_runDown 118 = .ok (.iaload, 1) := by decide +kernel
theorem dX4_runDown_119 : decode cX4_runDown 119 = .ok (.iload 6, 2) := by decide +kernel
theorem dX4_runDown_121 : decode cX4_runDown 121 = .ok (.iadd, 1) := by decide +kernel
theorem dX4_runDown_122 : decode cX4_runDown 122 = .ok (.iastore, 1) := by decide +kernel
theorem dX4_runDown_123 : decode cX4_runDown 123 = .ok (.iload_n 3, 1) := by decide +kernel
theorem dX4_runDown_124 : decode cX4_runDown 124 = .ok (.iload 5, 2) := by decide +kernel
theorem dX4_runDown_126 : decode cX4_runDown 126 = .ok (.iload_n 1, 1) := by decide +kernel
theorem dX4_runDown_127 : decode cX4_runDown 127 = .ok (.if_icmp .ne 8, 3) := by decide +kernel
theorem dX4_runDown_130 : decode cX4_runDown 130 = .ok (.iload 6, 2) := by decide +kernel
theorem dX4_runDown_132 : decode cX4_runDown 132 = .ok (.goto 4, 3) := by decide +kernel
theorem dX4_runDown_135 : decode cX4_runDown 135 = .ok (.iconst 0, 1) := by decide +kernel
theorem dX4_runDown_136 : decode cX4_runDown 136 = .ok (.iadd, 1) := by decide +kernel
theorem dX4_runDown_137 : decode cX4_runDown 137 = .ok (.istore_n 3, 1) := by decide +kernel
theorem dX4_runDown_138 : decode cX4_runDown 138 = .ok (.iinc 5 1, 3) := by decide +kernel
theorem dX4_runDown_141 : decode cX4_runDown 141 = .ok (.goto (-122), 3) := by decide +kernel
theorem dX4_runDown_144 : decode cX4_runDown 144 = .ok (.iinc 4 (-1), 3) := by decide +kernel
theorem dX4_runDown_147 : decode cX4_runDown 147 = .ok (.goto (-136), 3) := by decide +kernel
theorem dX4_runDown_150 : decode cX4_runDown 150 = .ok (.iload_n 3, 1) := by decide +kernel
theorem dX4_runDown_151 : decode cX4_runDown 151 = .ok (.ireturn, 1) := by decide +kernel
set_option maxRecDepth 20000 in
theorem ggX4_breaks_X4_isInWay : GoodIn wsX4_breaks wsX4_isInWay := goodIn_r _ [20, 21, 4, 22, 23, 24, 19, 25, 26, 27, 28, 29, 30, 31, 32, 33, 34, 35, 36, 37, 38, 39, 40, 41, 42] (by decide +kernel) (by decide +kernel)
set_option maxRecDepth 20000 in
theorem gX4_breaks_X4_isInWay : GoodIn wsX4_breaks (wsV RX4 98 RX4 yX4_isInWay wsX4_isInWay) := goodIn_app (goodIn_of _ (by decide +kernel)) ggX4_breaks_X4_isInWay
theorem dX4_breaks_0 : decode cX4_breaks 0 = .ok (.iconst 0, 1) := by decide +kernel
theorem dX4_breaks_1 : decode cX4_breaks 1 = .ok (.istore_n 2, 1) := by decide +kernel
theorem dX4_breaks_2 : decode cX4_breaks 2 = .ok (.iconst 0, 1) := by decide +kernel
theorem dX4_breaks_3 : decode cX4_breaks 3 = .ok (.istore_n 3, 1) := by decide +kernel
theorem dX4_breaks_4 : decode cX4_breaks 4 = .ok (.iload_n 3, 1) := by decide +kernel
theorem dX4_breaks_5 : decode cX4_breaks 5 = .ok (.aload_n 0, 1) := by decide +kernel
theorem dX4_breaks_6 : decode cX4_breaks 6 = .ok (.getfield 3, 3) := by decide +kernel
theorem dX4_breaks_9 : decode cX4_breaks 9 = .ok (.getfield 86, 3) := by decide +kernel
theorem dX4_breaks_12 : decode cX4_breaks 12 = .ok (.if_icmp .ge 124, 3) := by decide +kernel
theorem dX4_breaks_15 : decode cX4_breaks 15 = .ok (.aload_n 0, 1) := by decide +kernel
theorem dX4_breaks_16 : decode cX4_breaks 16 = .ok (.getfield 3, 3) := by decide +kernel
theorem dX4_breaks_19 : decode cX4_breaks 19 = .ok (.getfield 89, 3) := by decide +kernel
theorem dX4_breaks_22 : decode cX4_breaks 22 = .ok (.iload_n 3, 1) := by decide +kernel
theorem dX4_breaks_23 : decode cX4_breaks 23 = .ok (.iaload, 1) := by decide +kernel
theorem dX4_breaks_24 : decode cX4_breaks 24 = .ok (.aload_n 0, 1) := by decide +kernel
theorem dX4_breaks_25 : decode cX4_breaks 25 = .ok (.getfield 37, 3) := by decide +kernel
theorem dX4_breaks_28 : decode cX4_breaks 28 = .ok (.iload_n 1, 1) := by decide +kernel
theorem dX4_breaks_29 : decode cX4_breaks 29 = .ok (.iaload, 1) := by decide +kernel
theorem dX4_breaks_30 : decode cX4_breaks 30 = .ok (.if_icmp .ne 100, 3) := by decide +kernel
theorem dX4_breaks_33 : decode cX4_breaks 33 = .ok (.aload_n 0, 1) := by decide +kernel
theorem dX4_breaks_34 : decode cX4_breaks 34 = .ok (.iload_n 3, 1) := by decide +kernel
theorem dX4_breaks_35 : decode cX4_breaks 35 = .ok (.aload_n 0, 1) := by decide +kernel
theorem dX4_breaks_36 : decode cX4_breaks 36 = .ok (.getfield 34, 3) := by decide +kernel
theorem dX4_breaks_39 : decode cX4_breaks 39 = .ok (.iload_n 1, 1) := by decide +kernel
theorem dX4_breaks_40 : decode cX4_breaks 40 = .ok (.iaload, 1) := by decide +kernel
theorem dX4_breaks_41 : decode cX4_breaks 41 = .ok (.invokevirtual 98, 3) := by decide +kernel
theorem dX4_breaks_44 : decode cX4_breaks 44 = .ok (.ifCond .ne 6, 3) := by decide +kernel
theorem dX4_breaks_47 : decode cX4_breaks 47 = .ok (.goto 83, 3) := by decide +kernel
theorem dX4_breaks_50 : decode cX4_breaks 50 = .ok (.iconst 1, 1) := by decide +kernel
theorem dX4_breaks_51 : decode cX4_breaks 51 = .ok (.istore_n 2, 1) := by decide +kernel
theorem dX4_breaks_52 : decode cX4_breaks 52 = .ok (.aload_n 0, 1) := by decide +kernel
theorem dX4_breaks_53 : decode cX4_breaks 53 = .ok (.getfield 15, 3) := by decide +kernel
theorem dX4_breaks_56 : decode cX4_breaks 56 = .ok (.iload_n 3, 1) := by decide +kernel
theorem dX4_breaks_57 : decode cX4_breaks 57 = .ok (.bipush 30, 2) := by decide +kernel
theorem dX4_breaks_59 : decode cX4_breaks 59 = .ok (.aload_n 0, 1) := by decide +kernel
theorem dX4_breaks_60 : decode cX4_breaks 60 = .ok (.getfield 34, 3) := by decide +kernel
theorem dX4_breaks_63 : decode cX4_breaks 63 = .ok (.iload_n 1, 1) := by decide +kernel
theorem dX4_breaks_64 : decode cX4_breaks 64 = .ok (.iaload, 1) := by decide +kernel
theorem dX4_breaks_65 : decode cX4_breaks 65 = .ok (.isub, 1) := by decide +kernel
theorem dX4_breaks_66 : decode cX4_breaks 66 = .ok (.iastore, 1) := by decide +kernel
theorem dX4_breaks_67 : decode cX4_breaks 67 = .ok (.aload_n 0, 1) := by decide +kernel
theorem dX4_breaks_68 : decode cX4_breaks 68 = .ok (.getfield 19, 3) := by decide +kernel
theorem dX4_breaks_71 : decode cX4_breaks 71 = .ok (.iload_n 3, 1) := by decide +kernel
theorem dX4_breaks_72 : decode cX4_breaks 72 = .ok (.iconst 0, 1) := by decide +kernel
theorem dX4_breaks_73 : decode cX4_breaks 73 = .ok (.aload_n 0, 1) := by decide +kernel
theorem dX4_breaks_74 : decode cX4_breaks 74 = .ok (.getfield 19, 3) := by decide +kernel
theorem dX4_breaks_77 : decode cX4_breaks 77 = .ok (.iload_n 3, 1) := by decide +kernel
theorem dX4_breaks_78 : decode cX4_breaks 78 = .ok (.iaload, 1) := by decide +kernel
theorem dX4_breaks_79 : decode cX4_breaks 79 = .ok (.bipush 20, 2) := by decide +kernel
theorem dX4_breaks_81 : decode cX4_breaks 81 = .ok (.isub, 1) := by decide +kernel
theorem dX4_breaks_82 : decode cX4_breaks 82 = .ok (.invokestatic 102, 3) := by decide +kernel
theorem dX4_breaks_85 : decode cX4_breaks 85 = .ok (.iastore, 1) := by decide +kernel
theorem dX4_breaks_86 : decode cX4_breaks 86 = .ok (.iconst 3, 1) := by decide +kernel
theorem dX4_breaks_87 : decode cX4_breaks 87 = .ok (.aload_n 0, 1) := by decide +kernel
theorem dX4_breaks_88 : decode cX4_breaks 88 = .ok (.getfield 22, 3) := by decide +kernel
theorem dX4_breaks_91 : decode cX4_breaks 91 = .ok (.iload_n 3, 1) := by decide +kernel
theorem dX4_breaks_92 : decode cX4_breaks 92 = .ok (.iaload, 1) := by decide +kernel
theorem dX4_breaks_93 : decode cX4_breaks 93 = .ok (.invokestatic 92, 3) := by decide +kernel
theorem dX4_breaks_96 : decode cX4_breaks 96 = .ok (.istore 4, 2) := by decide +kernel
theorem dX4_breaks_98 : decode cX4_breaks 98 = .ok (.aload_n 0, 1) := by decide +kernel
theorem dX4_breaks_99 : decode cX4_breaks 99 = .ok (.getfield 22, 3) := by decide +kernel
theorem dX4_breaks_102 : decode cX4_breaks 102 = .ok (.iload_n 3, 1) := by decide +kernel
theorem dX4_breaks_103 : decode cX4_breaks 103 = .ok (.dup2, 1) := by decide +kernel
theorem dX4_breaks_104 : decode cX4_breaks 104 = .ok (.iaload, 1) := by decide +kernel
theorem dX4_breaks_105 : decode cX4_breaks 105 = .ok (.iload 4, 2) := by decide +kernel
theorem dX4_breaks_107 : decode cX4_breaks 107 = .ok (.isub, 1) := by decide +kernel
theorem dX4_breaks_108 : decode cX4_breaks 108 = .ok (.iastore, 1) := by decide +kernel
theorem dX4_breaks_109 : decode cX4_breaks 109 = .ok (.aload_n 0, 1) := by decide +kernel
theorem dX4_breaks_110 : decode cX4_breaks 110 = .ok (.dup, 1) := by decide +kernel
theorem dX4_breaks_111 : decode cX4_breaks 111 = .ok (.getfield 62, 3) := by decide +kernel
theorem dX4_breaks_114 : decode cX4_breaks 114 = .ok (.iload 4, 2) := by decide +kernel
theorem dX4_breaks_116 : decode cX4_breaks 116 = .ok (.iadd, 1) := by decide +kernel
theorem dX4_breaks_117 : decode cX4_breaks 117 = .ok (.putfield 62, 3) := by decide +kernel
theorem dX4_breaks_120 : decode cX4_breaks 120 = .ok (.aload_n 0, 1) := by decide +kernel
theorem dX4_breaks_121 : decode cX4_breaks 121 = .ok (.getfield 40, 3) := by decide +kernel
theorem dX4_breaks_124 : decode cX4_breaks 124 = .ok (.iload_n 1, 1) := by decide +kernel
theorem dX4_breaks_125 : decode cX4_breaks 125 = .ok (.dup2, 1) := by decide +kernel
theorem dX4_breaks_126 : decode cX4_breaks 126 = .ok (.iaload, 1) := by decide +kernel
theorem dX4_breaks_127 : decode cX4_breaks 127 = .ok (.iconst 1, 1) := by decide +kernel
theorem dX4_breaks_128 : decode cX4_breaks 128 = .ok (.iadd, 1) := by decide +kernel
theorem dX4_breaks_129 : decode cX4_breaks 129 = .ok (.iastore, 1) := by decide +kernel
theorem dX4_breaks_130 : decode cX4_breaks 130 = .ok (.iinc 3 1, 3) := by decide +kernel
theorem dX4_breaks_133 : decode cX4_breaks 133 = .ok (.goto (-129), 3) := by decide +kernel
theorem dX4_breaks_136 : decode cX4_breaks 136 = .ok (.iload_n 2, 1) := by decide +kernel
theorem dX4_breaks_137 : decode cX4_breaks 137 = .ok (.ireturn, 1) := by decide +kernel
set_option maxRecDepth 20000 in
theorem ggX4_goUp_X4_breaks : GoodIn wsX4_goUp wsX4_breaks := goodIn_r _ [6, 7, 1, 8, 9, 10, 11, 12, 13, 14, 15, 16, 17, 18, 19, 20, 21, 22, 23, 5, 24, 25, 26, 27, 28, 29, 30, 31, 32, 33, 34, 35, 36, 37, 38, 39, 40, 41, 42, 43, 44, 45, 46, 47, 48, 49, 50, 51, 52, 53] (by decide +kernel) (by decide +kernel)
set_option maxRecDepth 20000 in
theorem gX4_goUp_X4_breaks : GoodIn wsX4_goUp (wsV RX4 105 RX4 yX4_breaks wsX4_breaks) := goodIn_app (goodIn_of _ (by decide +kernel)) ggX4_goUp_X4_breaks
theorem dX4_goUp_0 : decode cX4_goUp 0 = .ok (.iconst 0, 1) := by decide +kernel
theorem dX4_goUp_1 : decode cX4_goUp 1 = .ok (.istore_n 2, 1) := by decide +kernel
theorem dX4_goUp_2 : decode cX4_goUp 2 = .ok (.iload_n 2, 1) := by decide +kernel
theorem dX4_goUp_3 : decode cX4_goUp 3 = .ok (.iconst 5, 1) := by decide +kernel
theorem dX4_goUp_4 : decode cX4_goUp 4 = .ok (.if_icmp .ge 39, 3) := by decide +kernel
theorem dX4_goUp_7 : decode cX4_goUp 7 = .ok (.aload_n 0, 1) := by decide +kernel
theorem dX4_goUp_8 : decode cX4_goUp 8 = .ok (.getfield 37, 3) := by decide +kernel
theorem dX4_goUp_11 : decode cX4_goUp 11 = .ok (.iload_n 1, 1) := by decide +kernel
theorem dX4_goUp_12 : decode cX4_goUp 12 = .ok (.iaload, 1) := by decide +kernel
theorem dX4_goUp_13 : decode cX4_goUp 13 = .ok (.bipush 39, 2) := by decide +kernel
theorem dX4_goUp_15 : decode cX4_goUp 15 = .ok (.if_icmp .ge 28, 3) := by decide +kernel
theorem dX4_goUp_18 : decode cX4_goUp 18 = .ok (.aload_n 0, 1) := by decide +kernel
theorem dX4_goUp_19 : decode cX4_goUp 19 = .ok (.getfield 37, 3) := by decide +kernel
theorem dX4_goUp_22 : decode cX4_goUp 22 = .ok (.iload_n 1, 1) := by decide +kernel
theorem dX4_goUp_23 : decode cX4_goUp 23 = .ok (.dup2, 1) := by decide +kernel
theorem dX4_goUp_24 : decode cX4_goUp 24 = .ok (.iaload, 1) := by decide +kernel
theorem dX4_goUp_25 : decode cX4_goUp 25 = .ok (.iconst 1, 1) := by decide +kernel
theorem dX4_goUp_26 : decode cX4_goUp 26 = .ok (.iadd, 1) := by decide +kernel
theorem dX4_goUp_27 : decode cX4_goUp 27 = .ok (.iastore, 1) := by decide +kernel
theorem dX4_goUp_28 : decode cX4_goUp 28 = .ok (.aload_n 0, 1) := by decide +kernel
theorem dX4_goUp_29 : decode cX4_goUp 29 = .ok (.iload_n 1, 1) := by decide +kernel
theorem dX4_goUp_30 : decode cX4_goUp 30 = .ok (.invokevirtual 105, 3) := by decide +kernel
theorem dX4_goUp_33 : decode cX4_goUp 33 = .ok (.ifCond .eq 4, 3) := by decide +kernel
theorem dX4_goUp_36 : decode cX4_goUp 36 = .ok (.return_, 1) := by decide +kernel
theorem dX4_goUp_37 : decode cX4_goUp 37 = .ok (.iinc 2 1, 3) := by decide +kernel
theorem dX4_goUp_40 : decode cX4_goUp 40 = .ok (.goto (-38), 3) := by decide +kernel
theorem dX4_goUp_43 : decode cX4_goUp 43 = .ok (.return_, 1) := by decide +kernel
theorem dX4_leave_0 : decode cX4_leave 0 = .ok (.iconst 0, 1) := by decide +kernel
theorem dX4_leave_1 : decode cX4_leave 1 = .ok (.istore_n 1, 1) := by decide +kernel
theorem dX4_leave_2 : decode cX4_leave 2 = .ok (.iconst 0, 1) := by decide +kernel
theorem dX4_leave_3 : decode cX4_leave 3 = .ok (.istore_n 2, 1) := by decide +kernel
theorem dX4_leave_4 : decode cX4_leave 4 = .ok (.iload_n 2, 1) := by decide +kernel
theorem dX4_leave_5 : decode cX4_leave 5 = .ok (.aload_n 0, 1) := by decide +kernel
theorem dX4_leave_6 : decode cX4_leave 6 = .ok (.getfield 56, 3) := by decide +kernel
theorem dX4_leave_9 : decode cX4_leave 9 = .ok (.if_icmp .ge 84, 3) := by decide +kernel
theorem dX4_leave_12 : decode cX4_leave 12 = .ok (.aload_n 0, 1) := by decide +kernel
theorem dX4_leave_13 : decode cX4_leave 13 = .ok (.getfield 37, 3) := by decide +kernel
theorem dX4_leave_16 : decode cX4_leave 16 = .ok (.iload_n 2, 1) := by decide +kernel
theorem dX4_leave_17 : decode cX4_leave 17 = .ok (.iaload, 1) := by decide +kernel
theorem dX4_leave_18 : decode cX4_leave 18 = .ok (.bipush 39, 2) := by decide +kernel
theorem dX4_leave_20 : decode cX4_leave 20 = .ok (.if_icmp .ne 16, 3) := by decide +kernel
theorem dX4_leave_23 : decode cX4_leave 23 = .ok (.aload_n 0, 1) := by decide +kernel
theorem dX4_leave_24 : decode cX4_leave 24 = .ok (.dup, 1) := by decide +kernel
theorem dX4_leave_25 : decode cX4_leave 25 = .ok (.getfield 59, 3) := by decide +kernel
theorem dX4_leave_28 : decode cX4_leave 28 = .ok (.iconst 1, 1) := by decide +kernel
theorem dX4_leave_29 : decode cX4_leave 29 = .ok (.iadd, 1) := by decide +kernel
theorem dX4_leave_30 : decode cX4_leave 30 = .ok (.putfield 59, 3) := by decide +kernel
theorem dX4_leave_33 : decode cX4_leave 33 = .ok (.goto 54, 3) := by decide +kernel
theorem dX4_leave_36 : decode cX4_leave 36 = .ok (.aload_n 0, 1) := by decide +kernel
theorem dX4_leave_37 : decode cX4_leave 37 = .ok (.getfield 34, 3) := by decide +kernel
theorem dX4_leave_40 : decode cX4_leave 40 = .ok (.iload_n 1, 1) := by decide +kernel
theorem dX4_leave_41 : decode cX4_leave 41 = .ok (.aload_n 0, 1) := by decide +kernel
theorem dX4_leave_42 : decode cX4_leave 42 = .ok (.getfield 34, 3) := by decide +kernel
theorem dX4_leave_45 : decode cX4_leave 45 = .ok (.iload_n 2, 1) := by decide +kernel
theorem dX4_leave_46 : decode cX4_leave 46 = .ok (.iaload, 1) := by decide +kernel
theorem dX4_leave_47 : decode cX4_leave 47 = .ok (.iastore, 1) := by decide +kernel
theorem dX4_leave_48 : decode cX4_leave 48 = .ok (.aload_n 0, 1) := by decide +kernel
theorem dX4_leave_49 : decode cX4_leave 49 = .ok (.getfield 37, 3) := by decide +kernel
theorem dX4_leave_52 : decode cX4_leave 52 = .ok (.iload_n 1, 1) := by decide +kernel
theorem dX4_leave_53 : decode cX4_leave 53 = .ok (.aload_n 0, 1) := by decide +kernel
theorem dX4_leave_54 : decode cX4_leave 54 = .ok (.getfield 37, 3) := by decide +kernel
theorem dX4_leave_57 : decode cX4_leave 57 = .ok (.iload_n 2, 1) := by decide +kernel
theorem dX4_leave_58 : decode cX4_leave 58 = .ok (.iaload, 1) := by decide +kernel
theorem dX4_leave_59 : decode cX4_leave 59 = .ok (.iastore, 1) := by decide +kernel
theorem dX4_leave_60 : decode cX4_leave 60 = .ok (.aload_n 0, 1) := by decide +kernel
theorem dX4_leave_61 : decode cX4_leave 61 = .ok (.getfield 40, 3) := by decide +kernel
theorem dX4_leave_64 : decode cX4_leave 64 = .ok (.iload_n 1, 1) := by decide +kernel
theorem dX4_leave_65 : decode cX4_leave 65 = .ok (.aload_n 0, 1) := by decide +kernel
theorem dX4_leave_66 : decode cX4_leave 66 = .ok (.getfield 40, 3) := by decide +kernel
theorem dX4_leave_69 : decode cX4_leave 69 = .ok (.iload_n 2, 1) := by decide +kernel
theorem dX4_leave_70 : decode cX4_leave 70 = .ok (.iaload, 1) := by decide +kernel
theorem dX4_leave_71 : decode cX4_leave 71 = .ok (.iastore, 1) := by decide +kernel
theorem dX4_leave_72 : decode cX4_leave 72 = .ok (.aload_n 0, 1) := by decide +kernel
theorem dX4_leave_73 : decode cX4_leave 73 = .ok (.getfield 43, 3) := by decide +kernel
theorem dX4_leave_76 : decode cX4_leave 76 = .ok (.iload_n 1, 1) := by decide +kernel
theorem dX4_leave_77 : decode cX4_leave 77 = .ok (.aload_n 0, 1) := by decide +kernel
theorem dX4_leave_78 : decode cX4_leave 78 = .ok (.getfield 43, 3) := by decide +kernel
theorem dX4_leave_81 : decode cX4_leave 81 = .ok (.iload_n 2, 1) := by decide +kernel
theorem dX4_leave_82 : decode cX4_leave 82 = .ok (.iaload, 1) := by decide +kernel
theorem dX4_leave_83 : decode cX4_leave 83 = .ok (.iastore, 1) := by decide +kernel
theorem dX4_leave_84 : decode cX4_leave 84 = .ok (.iinc 1 1, 3) := by decide +kernel
theorem dX4_leave_87 : decode cX4_leave 87 = .ok (.iinc 2 1, 3) := by decide +kernel
theorem dX4_leave_90 : decode cX4_leave 90 = .ok (.goto (-86), 3) := by decide +kernel
theorem dX4_leave_93 : decode cX4_leave 93 = .ok (.aload_n 0, 1) := by decide +kernel
theorem dX4_leave_94 : decode cX4_leave 94 = .ok (.iload_n 1, 1) := by decide +kernel
theorem dX4_leave_95 : decode cX4_leave 95 = .ok (.putfield 56, 3) := by decide +kernel
theorem dX4_leave_98 : decode cX4_leave 98 = .ok (.return_, 1) := by decide +kernel
theorem dX4_payRent_0 : decode cX4_payRent 0 = .ok (.aload_n 0, 1) := by decide +kernel
theorem dX4_payRent_1 : decode cX4_payRent 1 = .ok (.getfield 22, 3) := by decide +kernel
theorem dX4_payRent_4 : decode cX4_payRent 4 = .ok (.iload_n 1, 1) := by decide +kernel
theorem dX4_payRent_5 : decode cX4_payRent 5 = .ok (.iaload, 1) := by decide +kernel
theorem dX4_payRent_6 : decode cX4_payRent 6 = .ok (.aload_n 0, 1) := by decide +kernel
theorem dX4_payRent_7 : decode cX4_payRent 7 = .ok (.getfield 3, 3) := by decide +kernel
theorem dX4_payRent_10 : decode cX4_payRent 10 = .ok (.getfield 108, 3) := by decide +kernel
theorem dX4_payRent_13 : decode cX4_payRent 13 = .ok (.iload_n 1, 1) := by decide +kernel
theorem dX4_payRent_14 : decode cX4_payRent 14 = .ok (.iaload, 1) := by decide +kernel
theorem dX4_payRent_15 : decode cX4_payRent 15 = .ok (.if_icmp .lt 47, 3) := by decide +kernel
theorem dX4_payRent_18 : decode cX4_payRent 18 = .ok (.aload_n 0, 1) := by decide +kernel
theorem dX4_payRent_19 : decode cX4_payRent 19 = .ok (.getfield 22, 3) := by decide +kernel
theorem dX4_payRent_22 : decode cX4_payRent 22 = .ok (.iload_n 1, 1) := by decide +kernel
theorem dX4_payRent_23 : decode cX4_payRent 23 = .ok (.dup2, 1) := by decide +kernel
theorem dX4_payRent_24 : decode cX4_payRent 24 = .ok (.iaload, 1) := by decide +kernel
theorem dX4_payRent_25 : decode cX4_payRent 25 = .ok (.aload_n 0, 1) := by decide +kernel
theorem dX4_payRent_26 : decode cX4_payRent 26 = .ok (.getfield 3, 3) := by decide +kernel
theorem dX4_payRent_29 : decode cX4_payRent 29 = .ok (.getfield 108, 3) := by decide +kernel
theorem dX4_payRent_32 : decode cX4_payRent 32 = .ok (.iload_n 1, 1) := by decide +kernel
theorem dX4_payRent_33 : decode cX4_payRent 33 = .ok (.iaload, 1) := by decide +kernel
theorem dX4_payRent_34 : decode cX4_payRent 34 = .ok (.isub, 1) := by decide +kernel
theorem dX4_payRent_35 : decode cX4_payRent 35 = .ok (.iastore, 1) := by decide +kernel
theorem dX4_payRent_36 : decode cX4_payRent 36 = .ok (.aload_n 0, 1) := by decide +kernel
theorem dX4_payRent_37 : decode cX4_payRent 37 = .ok (.dup, 1) := by decide +kernel
theorem dX4_payRent_38 : decode cX4_payRent 38 = .ok (.getfield 65, 3) := by decide +kernel
theorem dX4_payRent_41 : decode cX4_payRent 41 = .ok (.aload_n 0, 1) := by decide +kernel
theorem dX4_payRent_42 : decode cX4_payRent 42 = .ok (.getfield 3, 3) := by decide +kernel
theorem dX4_payRent_45 : decode cX4_payRent 45 = .ok (.getfield 108, 3) := by decide +kernel
theorem dX4_payRent_48 : decode cX4_payRent 48 = .ok (.iload_n 1, 1) := by decide +kernel
theorem dX4_payRent_49 : decode cX4_payRent 49 = .ok (.iaload, 1) := by decide +kernel
theorem dX4_payRent_50 : decode cX4_payRent 50 = .ok (.iadd, 1) := by decide +kernel
theorem dX4_payRent_51 : decode cX4_payRent 51 = .ok (.putfield 65, 3) := by decide +kernel
theorem dX4_payRent_54 : decode cX4_payRent 54 = .ok (.aload_n 0, 1) := by decide +kernel
theorem dX4_payRent_55 : decode cX4_payRent 55 = .ok (.getfield 31, 3) := by decide +kernel
theorem dX4_payRent_58 : decode cX4_payRent 58 = .ok (.iload_n 1, 1) := by decide +kernel
theorem dX4_payRent_59 : decode cX4_payRent 59 = .ok (.iconst 0, 1) := by decide +kernel
theorem dX4_payRent_60 : decode cX4_payRent 60 = .ok (.iastore, 1) := by decide +kernel
theorem dX4_payRent_61 : decode cX4_payRent 61 = .ok (.return_, 1) := by decide +kernel
theorem dX4_payRent_62 : decode cX4_payRent 62 = .ok (.aload_n 0, 1) := by decide +kernel
theorem dX4_payRent_63 : decode cX4_payRent 63 = .ok (.getfield 31, 3) := by decide +kernel
theorem dX4_payRent_66 : decode cX4_payRent 66 = .ok (.iload_n 1, 1) := by decide +kernel
theorem dX4_payRent_67 : decode cX4_payRent 67 = .ok (.dup2, 1) := by decide +kernel
theorem dX4_payRent_68 : decode cX4_payRent 68 = .ok (.iaload, 1) := by decide +kernel
theorem dX4_payRent_69 : decode cX4_payRent 69 = .ok (.iconst 1, 1) := by decide +kernel
theorem dX4_payRent_70 : decode cX4_payRent 70 = .ok (.iadd, 1) := by decide +kernel
theorem dX4_payRent_71 : decode cX4_payRent 71 = .ok (.iastore, 1) := by decide +kernel
theorem dX4_payRent_72 : decode cX4_payRent 72 = .ok (.aload_n 0, 1) := by decide +kernel
theorem dX4_payRent_73 : decode cX4_payRent 73 = .ok (.getfield 31, 3) := by decide +kernel
theorem dX4_payRent_76 : decode cX4_payRent 76 = .ok (.iload_n 1, 1) := by decide +kernel
theorem dX4_payRent_77 : decode cX4_payRent 77 = .ok (.iaload, 1) := by decide +kernel
theorem dX4_payRent_78 : decode cX4_payRent 78 = .ok (.iconst 3, 1) := by decide +kernel
theorem dX4_payRent_79 : decode cX4_payRent 79 = .ok (.if_icmp .ne 10, 3) := by decide +kernel
theorem dX4_payRent_82 : decode cX4_payRent 82 = .ok (.aload_n 0, 1) := by decide +kernel
theorem dX4_payRent_83 : decode cX4_payRent 83 = .ok (.getfield 25, 3) := by decide +kernel
theorem dX4_payRent_86 : decode cX4_payRent 86 = .ok (.iload_n 1, 1) := by decide +kernel
theorem dX4_payRent_87 : decode cX4_payRent 87 = .ok (.iconst 0, 1) := by decide +kernel
theorem dX4_payRent_88 : decode cX4_payRent 88 = .ok (.iastore, 1) := by decide +kernel
theorem dX4_payRent_89 : decode cX4_payRent 89 = .ok (.return_, 1) := by decide +kernel
set_option maxRecDepth 20000 in
theorem ggX4_pass_X4_runDown : GoodIn wsX4_pass wsX4_runDown := goodIn_r _ [13, 2, 14, 15, 3, 16, 17, 18, 6, 19, 20, 21, 22, 12, 23, 8, 24, 25, 26, 27, 28, 29, 30, 31, 32, 61, 62, 63, 64, 65, 66, 67, 68, 69, 70, 71, 72, 73, 74, 75, 76, 77, 78, 79, 80, 81, 82, 83] (by decide +kernel) (by decide +kernel)
set_option maxRecDepth 20000 in
theorem gX4_pass_X4_runDown : GoodIn wsX4_pass (wsV RX4 111 RX4 yX4_runDown wsX4_runDown) := goodIn_app (goodIn_of _ (by decide +kernel)) ggX4_pass_X4_runDown
set_option maxRecDepth 20000 in
theorem ggX4_pass_X4_goUp : GoodIn wsX4_pass wsX4_goUp := goodIn_r _ [36, 37, 38, 39, 40, 12, 41, 2, 42, 15, 3, 4, 5, 6, 7, 43, 17, 18, 19, 44, 45, 46, 47, 48, 49, 14, 28, 29, 30, 31, 32, 61, 62, 63, 64, 65, 66, 67, 68, 69, 70, 71, 72, 73, 74, 75, 76, 77, 78, 79, 80, 81, 82, 83] (by decide +kernel) (by decide +kernel)
set_option maxRecDepth 20000 in
theorem gX4_pass_X4_goUp : GoodIn wsX4_pass (wsV RX4 115 RX4 yX4_goUp wsX4_goUp) := goodIn_app (goodIn_of _ (by decide +kernel)) ggX4_pass_X4_goUp
set_option maxRecDepth 20000 in
theorem ggX4_pass_X4_leave : GoodIn wsX4_pass wsX4_leave := goodIn_r _ [53, 1, 37, 54, 42, 45, 55, 61, 62, 63, 64, 65, 66, 67, 68, 69, 70, 71, 72, 73, 74, 75, 76] (by decide +kernel) (by decide +kernel)
set_option maxRecDepth 20000 in
theorem gX4_pass_X4_leave : GoodIn wsX4_pass (wsV RX4 119 RX4 yX4_leave wsX4_leave) := goodIn_app (goodIn_of _ (by decide +kernel)) ggX4_pass_X4_leave
set_option maxRecDepth 20000 in
theorem ggX4_pass_X4_isHeld : GoodIn wsX4_pass wsX4_isHeld := goodIn_r _ [31, 32, 61, 62, 63, 64, 65, 66, 67, 68, 69, 70, 71, 72, 73, 74, 75, 76] (by decide +kernel) (by decide +kernel)
set_option maxRecDepth 20000 in
theorem gX4_pass_X4_isHeld : GoodIn wsX4_pass (wsV RX4 79 RX4 yX4_isHeld wsX4_isHeld) := goodIn_app (goodIn_of _ (by decide +kernel)) ggX4_pass_X4_isHeld
set_option maxRecDepth 20000 in
theorem ggX4_pass_X4_moon : GoodIn wsX4_pass wsX4_moon := goodIn_r _ [27, 8, 61, 62, 63, 64, 65, 66, 67, 68, 69, 70, 71, 72, 73, 74, 75, 76] (by decide +kernel) (by decide +kernel)
set_option maxRecDepth 20000 in
theorem gX4_pass_X4_moon : GoodIn wsX4_pass (wsV RX4 75 RX4 yX4_moon wsX4_moon) := goodIn_app (goodIn_of _ (by decide +kernel)) ggX4_pass_X4_moon
set_option maxRecDepth 20000 in
theorem ggX4_pass_X4_payRent : GoodIn wsX4_pass wsX4_payRent := goodIn_r _ [59, 43, 2, 60, 32, 16, 61, 62, 63, 64, 65, 66, 67, 68, 69, 70, 71, 72, 73, 74, 75, 76, 77, 78, 79, 80, 81, 82, 83] (by decide +kernel) (by decide +kernel)
set_option maxRecDepth 20000 in
theorem gX4_pass_X4_payRent : GoodIn wsX4_pass (wsV RX4 122 RX4 yX4_payRent wsX4_payRent) := goodIn_app (goodIn_of _ (by decide +kernel)) ggX4_pass_X4_payRent
theorem dX4_pass_0 : decode cX4_pass 0 = .ok (.aload_n 0, 1) := by decide +kernel
theorem dX4_pass_1 : decode cX4_pass 1 = .ok (.iconst (-1), 1) := by decide +kernel
theorem dX4_pass_2 : decode cX4_pass 2 = .ok (.invokevirtual 111, 3) := by decide +kernel
theorem dX4_pass_5 : decode cX4_pass 5 = .ok (.pop, 1) := by decide +kernel
theorem dX4_pass_6 : decode cX4_pass 6 = .ok (.iconst 0, 1) := by decide +kernel
theorem dX4_pass_7 : decode cX4_pass 7 = .ok (.istore_n 1, 1) := by decide +kernel
theorem dX4_pass_8 : decode cX4_pass 8 = .ok (.iload_n 1, 1) := by decide +kernel
theorem dX4_pass_9 : decode cX4_pass 9 = .ok (.aload_n 0, 1) := by decide +kernel
theorem dX4_pass_10 : decode cX4_pass 10 = .ok (.getfield 56, 3) := by decide +kernel
theorem dX4_pass_13 : decode cX4_pass 13 = .ok (.if_icmp .ge 14, 3) := by decide +kernel
theorem dX4_pass_16 : decode cX4_pass 16 = .ok (.aload_n 0, 1) := by decide +kernel
theorem dX4_pass_17 : decode cX4_pass 17 = .ok (.iload_n 1, 1) := by decide +kernel
theorem dX4_pass_18 : decode cX4_pass 18 = .ok (.invokevirtual 115, 3) := by decide +kernel
theorem dX4_pass_21 : decode cX4_pass 21 = .ok (.iinc 1 1, 3) := by decide +kernel
theorem dX4_pass_24 : decode cX4_pass 24 = .ok (.goto (-16), 3) := by decide +kernel
theorem dX4_pass_27 : decode cX4_pass 27 = .ok (.aload_n 0, 1) := by decide +kernel
theorem dX4_pass_28 : decode cX4_pass 28 = .ok (.invokevirtual 119, 3) := by decide +kernel
theorem dX4_pass_31 : decode cX4_pass 31 = .ok (.iconst 0, 1) := by decide +kernel
theorem dX4_pass_32 : decode cX4_pass 32 = .ok (.istore_n 1, 1) := by decide +kernel
theorem dX4_pass_33 : decode cX4_pass 33 = .ok (.iload_n 1, 1) := by decide +kernel
theorem dX4_pass_34 : decode cX4_pass 34 = .ok (.aload_n 0, 1) := by decide +kernel
theorem dX4_pass_35 : decode cX4_pass 35 = .ok (.getfield 3, 3) := by decide +kernel
theorem dX4_pass_38 : decode cX4_pass 38 = .ok (.getfield 86, 3) := by decide +kernel
theorem dX4_pass_41 : decode cX4_pass 41 = .ok (.if_icmp .ge 47, 3) := by decide +kernel
theorem dX4_pass_44 : decode cX4_pass 44 = .ok (.aload_n 0, 1) := by decide +kernel
theorem dX4_pass_45 : decode cX4_pass 45 = .ok (.iload_n 1, 1) := by decide +kernel
theorem dX4_pass_46 : decode cX4_pass 46 = .ok (.invokevirtual 79, 3) := by decide +kernel
theorem dX4_pass_49 : decode cX4_pass 49 = .ok (.ifCond .eq 33, 3) := by decide +kernel
theorem dX4_pass_52 : decode cX4_pass 52 = .ok (.aload_n 0, 1) := by decide +kernel
theorem dX4_pass_53 : decode cX4_pass 53 = .ok (.getfield 19, 3) := by decide +kernel
theorem dX4_pass_56 : decode cX4_pass 56 = .ok (.iload_n 1, 1) := by decide +kernel
theorem dX4_pass_57 : decode cX4_pass 57 = .ok (.iconst 0, 1) := by decide +kernel
theorem dX4_pass_58 : decode cX4_pass 58 = .ok (.aload_n 0, 1) := by decide +kernel
theorem dX4_pass_59 : decode cX4_pass 59 = .ok (.getfield 19, 3) := by decide +kernel
theorem dX4_pass_62 : decode cX4_pass 62 = .ok (.iload_n 1, 1) := by decide +kernel
theorem dX4_pass_63 : decode cX4_pass 63 = .ok (.iaload, 1) := by decide +kernel
theorem dX4_pass_64 : decode cX4_pass 64 = .ok (.aload_n 0, 1) := by decide +kernel
theorem dX4_pass_65 : decode cX4_pass 65 = .ok (.invokevirtual 75, 3) := by decide +kernel
theorem dX4_pass_68 : decode cX4_pass 68 = .ok (.iconst 1, 1) := by decide +kernel
theorem dX4_pass_69 : decode cX4_pass 69 = .ok (.if_icmp .ne 7, 3) := by decide +kernel
theorem dX4_pass_72 : decode cX4_pass 72 = .ok (.iconst 1, 1) := by decide +kernel
theorem dX4_pass_73 : decode cX4_pass 73 = .ok (.goto 4, 3) := by decide +kernel
theorem dX4_pass_76 : decode cX4_pass 76 = .ok (.iconst 3, 1) := by decide +kernel
theorem dX4_pass_77 : decode cX4_pass 77 = .ok (.isub, 1) := by decide +kernel
theorem dX4_pass_78 : decode cX4_pass 78 = .ok (.invokestatic 102, 3) := by decide +kernel
theorem dX4_pass_81 : decode cX4_pass 81 = .ok (.iastore, 1) := by decide +kernel
theorem dX4_pass_82 : decode cX4_pass 82 = .ok (.iinc 1 1, 3) := by decide +kernel
theorem dX4_pass_85 : decode cX4_pass 85 = .ok (.goto (-52), 3) := by decide +kernel
theorem dX4_pass_88 : decode cX4_pass 88 = .ok (.iconst 0, 1) := by decide +kernel
theorem dX4_pass_89 : decode cX4_pass 89 = .ok (.istore_n 1, 1) := by decide +kernel
theorem dX4_pass_90 : decode cX4_pass 90 = .ok (.iload_n 1, 1) := by decide +kernel
theorem dX4_pass_91 : decode cX4_pass 91 = .ok (.aload_n 0, 1) := by decide +kernel
theorem dX4_pass_92 : decode cX4_pass 92 = .ok (.getfield 3, 3) := by decide +kernel
theorem dX4_pass_95 : decode cX4_pass 95 = .ok (.getfield 86, 3) := by decide +kernel
theorem dX4_pass_98 : decode cX4_pass 98 = .ok (.if_icmp .ge 34, 3) := by decide +kernel
theorem dX4_pass_101 : decode cX4_pass 101 = .ok (.aload_n 0, 1) := by decide +kernel
theorem dX4_pass_102 : decode cX4_pass 102 = .ok (.getfield 52, 3) := by decide +kernel
theorem dX4_pass_105 : decode cX4_pass 105 = .ok (.bipush 14, 2) := by decide +kernel
theorem dX4_pass_107 : decode cX4_pass 107 = .ok (.irem, 1) := by decide +kernel
theorem dX4_pass_108 : decode cX4_pass 108 = .ok (.bipush 13, 2) := by decide +kernel
theorem dX4_pass_110 : decode cX4_pass 110 = .ok (.if_icmp .ne 22, 3) := by decide +kernel
theorem dX4_pass_113 : decode cX4_pass 113 = .ok (.aload_n 0, 1) := by decide +kernel
theorem dX4_pass_114 : decode cX4_pass 114 = .ok (.iload_n 1, 1) := by decide +kernel
theorem dX4_pass_115 : decode cX4_pass 115 = .ok (.invokevirtual 79, 3) := by decide +kernel
theorem dX4_pass_118 : decode cX4_pass 118 = .ok (.ifCond .eq 8, 3) := by decide +kernel
theorem dX4_pass_121 : decode cX4_pass 121 = .ok (.aload_n 0, 1) := by decide +kernel
theorem dX4_pass_122 : decode cX4_pass 122 = .ok (.iload_n 1, 1) := by decide +kernel
theorem dX4_pass_123 : decode cX4_pass 123 = .ok (.invokevirtual 122, 3) := by decide +kernel
theorem dX4_pass_126 : decode cX4_pass 126 = .ok (.iinc 1 1, 3) := by decide +kernel
theorem dX4_pass_129 : decode cX4_pass 129 = .ok (.goto (-39), 3) := by decide +kernel
theorem dX4_pass_132 : decode cX4_pass 132 = .ok (.aload_n 0, 1) := by decide +kernel
theorem dX4_pass_133 : decode cX4_pass 133 = .ok (.dup, 1) := by decide +kernel
theorem dX4_pass_134 : decode cX4_pass 134 = .ok (.getfield 52, 3) := by decide +kernel
theorem dX4_pass_137 : decode cX4_pass 137 = .ok (.iconst 1, 1) := by decide +kernel
theorem dX4_pass_138 : decode cX4_pass 138 = .ok (.iadd, 1) := by decide +kernel
theorem dX4_pass_139 : decode cX4_pass 139 = .ok (.putfield 52, 3) := by decide +kernel
theorem dX4_pass_142 : decode cX4_pass 142 = .ok (.return_, 1) := by decide +kernel
set_option maxRecDepth 20000 in
theorem ggX4_pass__X4_pass : GoodIn wsX4_pass_ wsX4_pass := goodIn_r _ [5, 6, 7, 8, 9, 10, 11, 12, 13, 14, 15, 16, 4, 17, 18, 19, 20, 21, 22, 23, 24, 25, 26, 27, 28, 29, 30, 31, 32, 33, 34, 35, 36, 37, 38, 39, 40, 41, 42, 43, 44, 45, 46, 47, 48, 49, 50, 51, 52, 53, 54, 55, 56, 57, 58, 59, 60, 61, 62, 63, 64, 65, 66, 67, 68, 69, 70, 71, 72, 73, 74, 75, 76, 77, 78, 79, 80, 81, 82, 83, 84, 85, 86, 87] (by decide +kernel) (by decide +kernel)
set_option maxRecDepth 20000 in
theorem gX4_pass__X4_pass : GoodIn wsX4_pass_ (wsV RX4 125 RX4 yX4_pass wsX4_pass) := goodIn_app (goodIn_of _ (by decide +kernel)) ggX4_pass__X4_pass
theorem dX4_pass__0 : decode cX4_pass_ 0 = .ok (.iconst 0, 1) := by decide +kernel
theorem dX4_pass__1 : decode cX4_pass_ 1 = .ok (.istore_n 2, 1) := by decide +kernel
theorem dX4_pass__2 : decode cX4_pass_ 2 = .ok (.iload_n 2, 1) := by decide +kernel
theorem dX4_pass__3 : decode cX4_pass_ 3 = .ok (.iload_n 1, 1) := by decide +kernel
theorem dX4_pass__4 : decode cX4_pass_ 4 = .ok (.if_icmp .ge 13, 3) := by decide +kernel
theorem dX4_pass__7 : decode cX4_pass_ 7 = .ok (.aload_n 0, 1) := by decide +kernel
theorem dX4_pass__8 : decode cX4_pass_ 8 = .ok (.invokevirtual 125, 3) := by decide +kernel
theorem dX4_pass__11 : decode cX4_pass_ 11 = .ok (.iinc 2 1, 3) := by decide +kernel
theorem dX4_pass__14 : decode cX4_pass_ 14 = .ok (.goto (-12), 3) := by decide +kernel
theorem dX4_pass__17 : decode cX4_pass_ 17 = .ok (.return_, 1) := by decide +kernel
set_option maxRecDepth 20000 in
theorem ggX4_held_X4_isHeld : GoodIn wsX4_held wsX4_isHeld := goodIn_r _ [6, 7, 8, 9, 10, 11, 12, 13, 14, 15, 16, 17, 18, 19, 20, 21, 22, 23] (by decide +kernel) (by decide +kernel)
set_option maxRecDepth 20000 in
theorem gX4_held_X4_isHeld : GoodIn wsX4_held (wsV RX4 79 RX4 yX4_isHeld wsX4_isHeld) := goodIn_app (goodIn_of _ (by decide +kernel)) ggX4_held_X4_isHeld
theorem dX4_held_0 : decode cX4_held 0 = .ok (.iconst 0, 1) := by decide +kernel
theorem dX4_held_1 : decode cX4_held 1 = .ok (.istore_n 1, 1) := by decide +kernel
theorem dX4_held_2 : decode cX4_held 2 = .ok (.iconst 0, 1) := by decide +kernel
theorem dX4_held_3 : decode cX4_held 3 = .ok (.istore_n 2, 1) := by decide +kernel
theorem dX4_held_4 : decode cX4_held 4 = .ok (.iload_n 2, 1) := by decide +kernel
theorem dX4_held_5 : decode cX4_held 5 = .ok (.aload_n 0, 1) := by decide +kernel
theorem dX4_held_6 : decode cX4_held 6 = .ok (.getfield 3, 3) := by decide +kernel
theorem dX4_held_9 : decode cX4_held 9 = .ok (.getfield 86, 3) := by decide +kernel
theorem dX4_held_12 : decode cX4_held 12 = .ok (.if_icmp .ge 25, 3) := by decide +kernel
theorem dX4_held_15 : decode cX4_held 15 = .ok (.iload_n 1, 1) := by decide +kernel
theorem dX4_held_16 : decode cX4_held 16 = .ok (.aload_n 0, 1) := by decide +kernel
theorem dX4_held_17 : decode cX4_held 17 = .ok (.iload_n 2, 1) := by decide +kernel
theorem dX4_held_18 : decode cX4_held 18 = .ok (.invokevirtual 79, 3) := by decide +kernel
theorem dX4_held_21 : decode cX4_held 21 = .ok (.ifCond .eq 7, 3) := by decide +kernel
theorem dX4_held_24 : decode cX4_held 24 = .ok (.iconst 1, 1) := by decide +kernel
theorem dX4_held_25 : decode cX4_held 25 = .ok (.goto 4, 3) := by decide +kernel
theorem dX4_held_28 : decode cX4_held 28 = .ok (.iconst 0, 1) := by decide +kernel
theorem dX4_held_29 : decode cX4_held 29 = .ok (.iadd, 1) := by decide +kernel
theorem dX4_held_30 : decode cX4_held 30 = .ok (.istore_n 1, 1) := by decide +kernel
theorem dX4_held_31 : decode cX4_held 31 = .ok (.iinc 2 1, 3) := by decide +kernel
theorem dX4_held_34 : decode cX4_held 34 = .ok (.goto (-30), 3) := by decide +kernel
theorem dX4_held_37 : decode cX4_held 37 = .ok (.iload_n 1, 1) := by decide +kernel
theorem dX4_held_38 : decode cX4_held 38 = .ok (.ireturn, 1) := by decide +kernel
theorem dX4_allEels_0 : decode cX4_allEels 0 = .ok (.iconst 0, 1) := by decide +kernel
theorem dX4_allEels_1 : decode cX4_allEels 1 = .ok (.istore_n 1, 1) := by decide +kernel
theorem dX4_allEels_2 : decode cX4_allEels 2 = .ok (.iconst 0, 1) := by decide +kernel
theorem dX4_allEels_3 : decode cX4_allEels 3 = .ok (.istore_n 2, 1) := by decide +kernel
theorem dX4_allEels_4 : decode cX4_allEels 4 = .ok (.iload_n 2, 1) := by decide +kernel
theorem dX4_allEels_5 : decode cX4_allEels 5 = .ok (.aload_n 0, 1) := by decide +kernel
theorem dX4_allEels_6 : decode cX4_allEels 6 = .ok (.getfield 3, 3) := by decide +kernel
theorem dX4_allEels_9 : decode cX4_allEels 9 = .ok (.getfield 86, 3) := by decide +kernel
theorem dX4_allEels_12 : decode cX4_allEels 12 = .ok (.if_icmp .ge 18, 3) := by decide +kernel
theorem dX4_allEels_15 : decode cX4_allEels 15 = .ok (.iload_n 1, 1) := by decide +kernel
theorem dX4_allEels_16 : decode cX4_allEels 16 = .ok (.aload_n 0, 1) := by decide +kernel
theorem dX4_allEels_17 : decode cX4_allEels 17 = .ok (.getfield 25, 3) := by decide +kernel
theorem dX4_allEels_20 : decode cX4_allEels 20 = .ok (.iload_n 2, 1) := by decide +kernel
theorem dX4_allEels_21 : decode cX4_allEels 21 = .ok (.iaload, 1) := by decide +kernel
theorem dX4_allEels_22 : decode cX4_allEels 22 = .ok (.iadd, 1) := by decide +kernel
theorem dX4_allEels_23 : decode cX4_allEels 23 = .ok (.istore_n 1, 1) := by decide +kernel
theorem dX4_allEels_24 : decode cX4_allEels 24 = .ok (.iinc 2 1, 3) := by decide +kernel
theorem dX4_allEels_27 : decode cX4_allEels 27 = .ok (.goto (-23), 3) := by decide +kernel
theorem dX4_allEels_30 : decode cX4_allEels 30 = .ok (.iload_n 1, 1) := by decide +kernel
theorem dX4_allEels_31 : decode cX4_allEels 31 = .ok (.ireturn, 1) := by decide +kernel
set_option maxRecDepth 20000 in
theorem ggX4_counted_X4_moon : GoodIn wsX4_counted wsX4_moon := goodIn_r _ [12, 2, 31, 32, 33, 34, 35, 36, 37, 38, 39, 40, 41, 42, 43, 44, 45, 46] (by decide +kernel) (by decide +kernel)
set_option maxRecDepth 20000 in
theorem gX4_counted_X4_moon : GoodIn wsX4_counted (wsV RX4 75 RX4 yX4_moon wsX4_moon) := goodIn_app (goodIn_of _ (by decide +kernel)) ggX4_counted_X4_moon
set_option maxRecDepth 20000 in
theorem ggX4_counted_X4_run : GoodIn wsX4_counted wsX4_run := goodIn_r _ [16, 3, 2, 8, 9, 10, 11, 12, 31, 32, 33, 34, 35, 36, 37, 38, 39, 40, 41, 42, 43, 44, 45, 46, 47, 48, 49, 50, 51, 52, 53] (by decide +kernel) (by decide +kernel)
set_option maxRecDepth 20000 in
theorem gX4_counted_X4_run : GoodIn wsX4_counted (wsV RX4 83 RX4 yX4_run wsX4_run) := goodIn_app (goodIn_of _ (by decide +kernel)) ggX4_counted_X4_run
set_option maxRecDepth 20000 in
theorem ggX4_counted_X4_held : GoodIn wsX4_counted wsX4_held := goodIn_r _ [20, 3, 21, 22, 23, 11, 24, 25, 31, 32, 33, 34, 35, 36, 37, 38, 39, 40, 41, 42, 43, 44, 45, 46, 47, 48, 49, 50, 51, 52, 53] (by decide +kernel) (by decide +kernel)
set_option maxRecDepth 20000 in
theorem gX4_counted_X4_held : GoodIn wsX4_counted (wsV RX4 128 RX4 yX4_held wsX4_held) := goodIn_app (goodIn_of _ (by decide +kernel)) ggX4_counted_X4_held
set_option maxRecDepth 20000 in
theorem ggX4_counted_X4_allEels : GoodIn wsX4_counted wsX4_allEels := goodIn_r _ [29, 3, 30, 31, 32, 33, 34, 35, 36, 37, 38, 39, 40, 41, 42, 43, 44, 45, 46, 47, 48, 49, 50, 51, 52, 53] (by decide +kernel) (by decide +kernel)
set_option maxRecDepth 20000 in
theorem gX4_counted_X4_allEels : GoodIn wsX4_counted (wsV RX4 131 RX4 yX4_allEels wsX4_allEels) := goodIn_app (goodIn_of _ (by decide +kernel)) ggX4_counted_X4_allEels
theorem dX4_counted_0 : decode cX4_counted 0 = .ok (.bipush 10, 2) := by decide +kernel
theorem dX4_counted_2 : decode cX4_counted 2 = .ok (.newarray .int, 2) := by decide +kernel
theorem dX4_counted_4 : decode cX4_counted 4 = .ok (.dup, 1) := by decide +kernel
theorem dX4_counted_5 : decode cX4_counted 5 = .ok (.iconst 0, 1) := by decide +kernel
theorem dX4_counted_6 : decode cX4_counted 6 = .ok (.aload_n 0, 1) := by decide +kernel
theorem dX4_counted_7 : decode cX4_counted 7 = .ok (.getfield 52, 3) := by decide +kernel
theorem dX4_counted_10 : decode cX4_counted 10 = .ok (.iastore, 1) := by decide +kernel
theorem dX4_counted_11 : decode cX4_counted 11 = .ok (.dup, 1) := by decide +kernel
theorem dX4_counted_12 : decode cX4_counted 12 = .ok (.iconst 1, 1) := by decide +kernel
theorem dX4_counted_13 : decode cX4_counted 13 = .ok (.aload_n 0, 1) := by decide +kernel
theorem dX4_counted_14 : decode cX4_counted 14 = .ok (.invokevirtual 75, 3) := by decide +kernel
theorem dX4_counted_17 : decode cX4_counted 17 = .ok (.iastore, 1) := by decide +kernel
theorem dX4_counted_18 : decode cX4_counted 18 = .ok (.dup, 1) := by decide +kernel
theorem dX4_counted_19 : decode cX4_counted 19 = .ok (.iconst 2, 1) := by decide +kernel
theorem dX4_counted_20 : decode cX4_counted 20 = .ok (.aload_n 0, 1) := by decide +kernel
theorem dX4_counted_21 : decode cX4_counted 21 = .ok (.invokevirtual 83, 3) := by decide +kernel
theorem dX4_counted_24 : decode cX4_counted 24 = .ok (.iastore, 1) := by decide +kernel
theorem dX4_counted_25 : decode cX4_counted 25 = .ok (.dup, 1) := by decide +kernel
theorem dX4_counted_26 : decode cX4_counted 26 = .ok (.iconst 3, 1) := by decide +kernel
theorem dX4_counted_27 : decode cX4_counted 27 = .ok (.aload_n 0, 1) := by decide +kernel
theorem dX4_counted_28 : decode cX4_counted 28 = .ok (.getfield 3, 3) := by decide +kernel
theorem dX4_counted_31 : decode cX4_counted 31 = .ok (.getfield 86, 3) := by decide +kernel
theorem dX4_counted_34 : decode cX4_counted 34 = .ok (.iastore, 1) := by decide +kernel
theorem dX4_counted_35 : decode cX4_counted 35 = .ok (.dup, 1) := by decide +kernel
theorem dX4_counted_36 : decode cX4_counted 36 = .ok (.iconst 4, 1) := by decide +kernel
theorem dX4_counted_37 : decode cX4_counted 37 = .ok (.aload_n 0, 1) := by decide +kernel
theorem dX4_counted_38 : decode cX4_counted 38 = .ok (.invokevirtual 128, 3) := by decide +kernel
theorem dX4_counted_41 : decode cX4_counted 41 = .ok (.iastore, 1) := by decide +kernel
theorem dX4_counted_42 : decode cX4_counted 42 = .ok (.dup, 1) := by decide +kernel
theorem dX4_counted_43 : decode cX4_counted 43 = .ok (.iconst 5, 1) := by decide +kernel
theorem dX4_counted_44 : decode cX4_counted 44 = .ok (.aload_n 0, 1) := by decide +kernel
theorem dX4_counted_45 : decode cX4_counted 45 = .ok (.getfield 56, 3) := by decide +kernel
theorem dX4_counted_48 : decode cX4_counted 48 = .ok (.iastore, 1) := by decide +kernel
theorem dX4_counted_49 : decode cX4_counted 49 = .ok (.dup, 1) := by decide +kernel
theorem dX4_counted_50 : decode cX4_counted 50 = .ok (.bipush 6, 2) := by decide +kernel
theorem dX4_counted_52 : decode cX4_counted 52 = .ok (.aload_n 0, 1) := by decide +kernel
theorem dX4_counted_53 : decode cX4_counted 53 = .ok (.getfield 59, 3) := by decide +kernel
theorem dX4_counted_56 : decode cX4_counted 56 = .ok (.iastore, 1) := by decide +kernel
theorem dX4_counted_57 : decode cX4_counted 57 = .ok (.dup, 1) := by decide +kernel
theorem dX4_counted_58 : decode cX4_counted 58 = .ok (.bipush 7, 2) := by decide +kernel
theorem dX4_counted_60 : decode cX4_counted 60 = .ok (.aload_n 0, 1) := by decide +kernel
theorem dX4_counted_61 : decode cX4_counted 61 = .ok (.getfield 62, 3) := by decide +kernel
theorem dX4_counted_64 : decode cX4_counted 64 = .ok (.iastore, 1) := by decide +kernel
theorem dX4_counted_65 : decode cX4_counted 65 = .ok (.dup, 1) := by decide +kernel
theorem dX4_counted_66 : decode cX4_counted 66 = .ok (.bipush 8, 2) := by decide +kernel
theorem dX4_counted_68 : decode cX4_counted 68 = .ok (.aload_n 0, 1) := by decide +kernel
theorem dX4_counted_69 : decode cX4_counted 69 = .ok (.getfield 65, 3) := by decide +kernel
theorem dX4_counted_72 : decode cX4_counted 72 = .ok (.iastore, 1) := by decide +kernel
theorem dX4_counted_73 : decode cX4_counted 73 = .ok (.dup, 1) := by decide +kernel
theorem dX4_counted_74 : decode cX4_counted 74 = .ok (.bipush 9, 2) := by decide +kernel
theorem dX4_counted_76 : decode cX4_counted 76 = .ok (.aload_n 0, 1) := by decide +kernel
theorem dX4_counted_77 : decode cX4_counted 77 = .ok (.invokevirtual 131, 3) := by decide +kernel
theorem dX4_counted_80 : decode cX4_counted 80 = .ok (.iastore, 1) := by decide +kernel
theorem dX4_counted_81 : decode cX4_counted 81 = .ok (.astore_n 2, 1) := by decide +kernel
theorem dX4_counted_82 : decode cX4_counted 82 = .ok (.aload_n 2, 1) := by decide +kernel
theorem dX4_counted_83 : decode cX4_counted 83 = .ok (.iload_n 1, 1) := by decide +kernel
theorem dX4_counted_84 : decode cX4_counted 84 = .ok (.iaload, 1) := by decide +kernel
theorem dX4_counted_85 : decode cX4_counted 85 = .ok (.ireturn, 1) := by decide +kernel
set_option maxRecDepth 20000 in
theorem ggX5_init_X4_init : GoodIn wsX5_init wsX4_init := goodIn_r _ [14, 15, 16, 2, 3, 4, 17, 18, 19, 20, 21, 22, 23, 24, 25, 26, 34, 35, 36, 37, 38, 39, 40, 41, 42, 43, 44, 45, 46, 47, 48, 49] (by decide +kernel) (by decide +kernel)
set_option maxRecDepth 20000 in
theorem gX5_init_X4_init_n21 : GoodIn wsX5_init (wsX4_init) := ggX5_init_X4_init
theorem dX5_init_0 : decode cX5_init 0 = .ok (.aload_n 0, 1) := by decide +kernel
theorem dX5_init_1 : decode cX5_init 1 = .ok (.invokespecial 1, 3) := by decide +kernel
theorem dX5_init_4 : decode cX5_init 4 = .ok (.aload_n 0, 1) := by decide +kernel
theorem dX5_init_5 : decode cX5_init 5 = .ok (.bipush 7, 2) := by decide +kernel
theorem dX5_init_7 : decode cX5_init 7 = .ok (.newarray .int, 2) := by decide +kernel
theorem dX5_init_9 : decode cX5_init 9 = .ok (.dup, 1) := by decide +kernel
theorem dX5_init_10 : decode cX5_init 10 = .ok (.iconst 0, 1) := by decide +kernel
theorem dX5_init_11 : decode cX5_init 11 = .ok (.bipush 30, 2) := by decide +kernel
theorem dX5_init_13 : decode cX5_init 13 = .ok (.iastore, 1) := by decide +kernel
theorem dX5_init_14 : decode cX5_init 14 = .ok (.dup, 1) := by decide +kernel
theorem dX5_init_15 : decode cX5_init 15 = .ok (.iconst 1, 1) := by decide +kernel
theorem dX5_init_16 : decode cX5_init 16 = .ok (.bipush 30, 2) := by decide +kernel
theorem dX5_init_18 : decode cX5_init 18 = .ok (.iastore, 1) := by decide +kernel
theorem dX5_init_19 : decode cX5_init 19 = .ok (.dup, 1) := by decide +kernel
theorem dX5_init_20 : decode cX5_init 20 = .ok (.iconst 2, 1) := by decide +kernel
theorem dX5_init_21 : decode cX5_init 21 = .ok (.bipush 30, 2) := by decide +kernel
theorem dX5_init_23 : decode cX5_init 23 = .ok (.iastore, 1) := by decide +kernel
theorem dX5_init_24 : decode cX5_init 24 = .ok (.dup, 1) := by decide +kernel
theorem dX5_init_25 : decode cX5_init 25 = .ok (.iconst 3, 1) := by decide +kernel
theorem dX5_init_26 : decode cX5_init 26 = .ok (.bipush 30, 2) := by decide +kernel
theorem dX5_init_28 : decode cX5_init 28 = .ok (.iastore, 1) := by decide +kernel
theorem dX5_init_29 : decode cX5_init 29 = .ok (.dup, 1) := by decide +kernel
theorem dX5_init_30 : decode cX5_init 30 = .ok (.iconst 4, 1) := by decide +kernel
theorem dX5_init_31 : decode cX5_init 31 = .ok (.bipush 30, 2) := by decide +kernel
theorem dX5_init_33 : decode cX5_init 33 = .ok (.iastore, 1) := by decide +kernel
theorem dX5_init_34 : decode cX5_init 34 = .ok (.dup, 1) := by decide +kernel
theorem dX5_init_35 : decode cX5_init 35 = .ok (.iconst 5, 1) := by decide +kernel
theorem dX5_init_36 : decode cX5_init 36 = .ok (.bipush 30, 2) := by decide +kernel
theorem dX5_init_38 : decode cX5_init 38 = .ok (.iastore, 1) := by decide +kernel
theorem dX5_init_39 : decode cX5_init 39 = .ok (.dup, 1) := by decide +kernel
theorem dX5_init_40 : decode cX5_init 40 = .ok (.bipush 6, 2) := by decide +kernel
theorem dX5_init_42 : decode cX5_init 42 = .ok (.bipush 30, 2) := by decide +kernel
theorem dX5_init_44 : decode cX5_init 44 = .ok (.iastore, 1) := by decide +kernel
theorem dX5_init_45 : decode cX5_init 45 = .ok (.putfield 7, 3) := by decide +kernel
theorem dX5_init_48 : decode cX5_init 48 = .ok (.aload_n 0, 1) := by decide +kernel
theorem dX5_init_49 : decode cX5_init 49 = .ok (.bipush 6, 2) := by decide +kernel
theorem dX5_init_51 : decode cX5_init 51 = .ok (.newarray .int, 2) := by decide +kernel
theorem dX5_init_53 : decode cX5_init 53 = .ok (.putfield 13, 3) := by decide +kernel
theorem dX5_init_56 : decode cX5_init 56 = .ok (.aload_n 0, 1) := by decide +kernel
theorem dX5_init_57 : decode cX5_init 57 = .ok (.bipush 6, 2) := by decide +kernel
theorem dX5_init_59 : decode cX5_init 59 = .ok (.newarray .int, 2) := by decide +kernel
theorem dX5_init_61 : decode cX5_init 61 = .ok (.putfield 16, 3) := by decide +kernel
theorem dX5_init_64 : decode cX5_init 64 = .ok (.aload_n 0, 1) := by decide +kernel
theorem dX5_init_65 : decode cX5_init 65 = .ok (.new 19, 3) := by decide +kernel
theorem dX5_init_68 : decode cX5_init 68 = .ok (.dup, 1) := by decide +kernel
theorem dX5_init_69 : decode cX5_init 69 = .ok (.aload_n 0, 1) := by decide +kernel
theorem dX5_init_70 : decode cX5_init 70 = .ok (.invokespecial 21, 3) := by decide +kernel
theorem dX5_init_73 : decode cX5_init 73 = .ok (.putfield 24, 3) := by decide +kernel
theorem dX5_init_76 : decode cX5_init 76 = .ok (.aload_n 0, 1) := by decide +kernel
theorem dX5_init_77 : decode cX5_init 77 = .ok (.new 19, 3) := by decide +kernel
theorem dX5_init_80 : decode cX5_init 80 = .ok (.dup, 1) := by decide +kernel
theorem dX5_init_81 : decode cX5_init 81 = .ok (.aload_n 0, 1) := by decide +kernel
theorem dX5_init_82 : decode cX5_init 82 = .ok (.invokespecial 21, 3) := by decide +kernel
theorem dX5_init_85 : decode cX5_init 85 = .ok (.putfield 28, 3) := by decide +kernel
theorem dX5_init_88 : decode cX5_init 88 = .ok (.return_, 1) := by decide +kernel
theorem dX5_thrown_0 : decode cX5_thrown 0 = .ok (.aload_n 0, 1) := by decide +kernel
theorem dX5_thrown_1 : decode cX5_thrown 1 = .ok (.getfield 31, 3) := by decide +kernel
theorem dX5_thrown_4 : decode cX5_thrown 4 = .ok (.ireturn, 1) := by decide +kernel
theorem dX5_no_0 : decode cX5_no 0 = .ok (.aload_n 0, 1) := by decide +kernel
theorem dX5_no_1 : decode cX5_no 1 = .ok (.iload_n 1, 1) := by decide +kernel
theorem dX5_no_2 : decode cX5_no 2 = .ok (.putfield 31, 3) := by decide +kernel
theorem dX5_no_5 : decode cX5_no 5 = .ok (.iconst 0, 1) := by decide +kernel
theorem dX5_no_6 : decode cX5_no 6 = .ok (.ireturn, 1) := by decide +kernel
theorem dX5_isIn_0 : decode cX5_isIn 0 = .ok (.iload_n 0, 1) := by decide +kernel
theorem dX5_isIn_1 : decode cX5_isIn 1 = .ok (.iload_n 1, 1) := by decide +kernel
theorem dX5_isIn_2 : decode cX5_isIn 2 = .ok (.if_icmp .lt 12, 3) := by decide +kernel
theorem dX5_isIn_5 : decode cX5_isIn 5 = .ok (.iload_n 0, 1) := by decide +kernel
theorem dX5_isIn_6 : decode cX5_isIn 6 = .ok (.iload_n 2, 1) := by decide +kernel
theorem dX5_isIn_7 : decode cX5_isIn 7 = .ok (.if_icmp .gt 7, 3) := by decide +kernel
theorem dX5_isIn_10 : decode cX5_isIn 10 = .ok (.iconst 1, 1) := by decide +kernel
theorem dX5_isIn_11 : decode cX5_isIn 11 = .ok (.goto 4, 3) := by decide +kernel
theorem dX5_isIn_14 : decode cX5_isIn 14 = .ok (.iconst 0, 1) := by decide +kernel
theorem dX5_isIn_15 : decode cX5_isIn 15 = .ok (.ireturn, 1) := by decide +kernel
set_option maxRecDepth 20000 in
theorem ggX5_isWeir_X5_isIn : GoodIn wsX5_isWeir wsX5_isIn := goodIn_r _ [5] (by decide +kernel) (by decide +kernel)
set_option maxRecDepth 20000 in
theorem gX5_isWeir_X5_isIn : GoodIn wsX5_isWeir (va_wsS RX5 38 yX5_isIn wsX5_isIn) := goodIn_app (goodIn_of _ (by decide +kernel)) ggX5_isWeir_X5_isIn
theorem dX5_isWeir_0 : decode cX5_isWeir 0 = .ok (.iload_n 1, 1) := by decide +kernel
theorem dX5_isWeir_1 : decode cX5_isWeir 1 = .ok (.iconst 0, 1) := by decide +kernel
theorem dX5_isWeir_2 : decode cX5_isWeir 2 = .ok (.aload_n 0, 1) := by decide +kernel
theorem dX5_isWeir_3 : decode cX5_isWeir 3 = .ok (.getfield 35, 3) := by decide +kernel
theorem dX5_isWeir_6 : decode cX5_isWeir 6 = .ok (.iconst 1, 1) := by decide +kernel
theorem dX5_isWeir_7 : decode cX5_isWeir 7 = .ok (.isub, 1) := by decide +kernel
theorem dX5_isWeir_8 : decode cX5_isWeir 8 = .ok (.invokestatic 38, 3) := by decide +kernel
theorem dX5_isWeir_11 : decode cX5_isWeir 11 = .ok (.ireturn, 1) := by decide +kernel
set_option maxRecDepth 20000 in
theorem ggX5_isBarge_X5_isIn : GoodIn wsX5_isBarge wsX5_isIn := goodIn_r _ [5] (by decide +kernel) (by decide +kernel)
set_option maxRecDepth 20000 in
theorem gX5_isBarge_X5_isIn : GoodIn wsX5_isBarge (va_wsS RX5 38 yX5_isIn wsX5_isIn) := goodIn_app (goodIn_of _ (by decide +kernel)) ggX5_isBarge_X5_isIn
theorem dX5_isBarge_0 : decode cX5_isBarge 0 = .ok (.iload_n 1, 1) := by decide +kernel
theorem dX5_isBarge_1 : decode cX5_isBarge 1 = .ok (.iconst 0, 1) := by decide +kernel
theorem dX5_isBarge_2 : decode cX5_isBarge 2 = .ok (.aload_n 0, 1) := by decide +kernel
theorem dX5_isBarge_3 : decode cX5_isBarge 3 = .ok (.getfield 24, 3) := by decide +kernel
theorem dX5_isBarge_6 : decode cX5_isBarge 6 = .ok (.getfield 42, 3) := by decide +kernel
theorem dX5_isBarge_9 : decode cX5_isBarge 9 = .ok (.iconst 1, 1) := by decide +kernel
theorem dX5_isBarge_10 : decode cX5_isBarge 10 = .ok (.isub, 1) := by decide +kernel
theorem dX5_isBarge_11 : decode cX5_isBarge 11 = .ok (.invokestatic 38, 3) := by decide +kernel
theorem dX5_isBarge_14 : decode cX5_isBarge 14 = .ok (.ireturn, 1) := by decide +kernel
set_option maxRecDepth 20000 in
theorem ggX5_weir_X5_isIn : GoodIn wsX5_weir wsX5_isIn := goodIn_r _ [9] (by decide +kernel) (by decide +kernel)
set_option maxRecDepth 20000 in
theorem gX5_weir_X5_isIn : GoodIn wsX5_weir (va_wsS RX5 38 yX5_isIn wsX5_isIn) := goodIn_app (goodIn_of _ (by decide +kernel)) ggX5_weir_X5_isIn
set_option maxRecDepth 20000 in
theorem ggX5_weir_X5_no : GoodIn wsX5_weir wsX5_no := goodIn_r _ [13, 1, 14, 15, 16, 17, 18, 19, 20] (by decide +kernel) (by decide +kernel)
set_option maxRecDepth 20000 in
theorem gX5_weir_X5_no : GoodIn wsX5_weir (wsV RX5 45 RX5 yX5_no wsX5_no) := goodIn_app (goodIn_of _ (by decide +kernel)) ggX5_weir_X5_no
theorem dX5_weir_0 : decode cX5_weir 0 = .ok (.aload_n 0, 1) := by decide +kernel
theorem dX5_weir_1 : decode cX5_weir 1 = .ok (.iconst 0, 1) := by decide +kernel
theorem dX5_weir_2 : decode cX5_weir 2 = .ok (.putfield 31, 3) := by decide +kernel
theorem dX5_weir_5 : decode cX5_weir 5 = .ok (.iload_n 1, 1) := by decide +kernel
theorem dX5_weir_6 : decode cX5_weir 6 = .ok (.iconst 0, 1) := by decide +kernel
theorem dX5_weir_7 : decode cX5_weir 7 = .ok (.bipush 39, 2) := by decide +kernel
theorem dX5_weir_9 : decode cX5_weir 9 = .ok (.invokestatic 38, 3) := by decide +kernel
theorem dX5_weir_12 : decode cX5_weir 12 = .ok (.ifCond .eq 23, 3) := by decide +kernel
theorem dX5_weir_15 : decode cX5_weir 15 = .ok (.iload_n 2, 1) := by decide +kernel
theorem dX5_weir_16 : decode cX5_weir 16 = .ok (.iconst 1, 1) := by decide +kernel
theorem dX5_weir_17 : decode cX5_weir 17 = .ok (.bipush 30, 2) := by decide +kernel
theorem dX5_weir_19 : decode cX5_weir 19 = .ok (.invokestatic 38, 3) := by decide +kernel
theorem dX5_weir_22 : decode cX5_weir 22 = .ok (.ifCond .eq 13, 3) := by decide +kernel
theorem dX5_weir_25 : decode cX5_weir 25 = .ok (.iload_n 3, 1) := by decide +kernel
theorem dX5_weir_26 : decode cX5_weir 26 = .ok (.iconst 0, 1) := by decide +kernel
theorem dX5_weir_27 : decode cX5_weir 27 = .ok (.bipush 50, 2) := by decide +kernel
theorem dX5_weir_29 : decode cX5_weir 29 = .ok (.invokestatic 38, 3) := by decide +kernel
theorem dX5_weir_32 : decode cX5_weir 32 = .ok (.ifCond .ne 9, 3) := by decide +kernel
theorem dX5_weir_35 : decode cX5_weir 35 = .ok (.aload_n 0, 1) := by decide +kernel
theorem dX5_weir_36 : decode cX5_weir 36 = .ok (.iconst 1, 1) := by decide +kernel
theorem dX5_weir_37 : decode cX5_weir 37 = .ok (.invokevirtual 45, 3) := by decide +kernel
theorem dX5_weir_40 : decode cX5_weir 40 = .ok (.ireturn, 1) := by decide +kernel
theorem dX5_weir_41 : decode cX5_weir 41 = .ok (.aload_n 0, 1) := by decide +kernel
theorem dX5_weir_42 : decode cX5_weir 42 = .ok (.getfield 35, 3) := by decide +kernel
theorem dX5_weir_45 : decode cX5_weir 45 = .ok (.bipush 6, 2) := by decide +kernel
theorem dX5_weir_47 : decode cX5_weir 47 = .ok (.if_icmp .ne 9, 3) := by decide +kernel
theorem dX5_weir_50 : decode cX5_weir 50 = .ok (.aload_n 0, 1) := by decide +kernel
theorem dX5_weir_51 : decode cX5_weir 51 = .ok (.iconst 2, 1) := by decide +kernel
theorem dX5_weir_52 : decode cX5_weir 52 = .ok (.invokevirtual 45, 3) := by decide +kernel
theorem dX5_weir_55 : decode cX5_weir 55 = .ok (.ireturn, 1) := by decide +kernel
theorem dX5_weir_56 : decode cX5_weir 56 = .ok (.aload_n 0, 1) := by decide +kernel
theorem dX5_weir_57 : decode cX5_weir 57 = .ok (.getfield 13, 3) := by decide +kernel
theorem dX5_weir_60 : decode cX5_weir 60 = .ok (.aload_n 0, 1) := by decide +kernel
theorem dX5_weir_61 : decode cX5_weir 61 = .ok (.getfield 35, 3) := by decide +kernel
theorem dX5_weir_64 : decode cX5_weir 64 = .ok (.iload_n 1, 1) := by decide +kernel
theorem dX5_weir_65 : decode cX5_weir 65 = .ok (.iastore, 1) := by decide +kernel
theorem dX5_weir_66 : decode cX5_weir 66 = .ok (.aload_n 0, 1) := by decide +kernel
theorem dX5_weir_67 : decode cX5_weir 67 = .ok (.getfield 16, 3) := by decide +kernel
theorem dX5_weir_70 : decode cX5_weir 70 = .ok (.aload_n 0, 1) := by decide +kernel
theorem dX5_weir_71 : decode cX5_weir 71 = .ok (.getfield 35, 3) := by decide +kernel
theorem dX5_weir_74 : decode cX5_weir 74 = .ok (.iload_n 3, 1) := by decide +kernel
theorem dX5_weir_75 : decode cX5_weir 75 = .ok (.iastore, 1) := by decide +kernel
theorem dX5_weir_76 : decode cX5_weir 76 = .ok (.aload_n 0, 1) := by decide +kernel
theorem dX5_weir_77 : decode cX5_weir 77 = .ok (.getfield 24, 3) := by decide +kernel
theorem dX5_weir_80 : decode cX5_weir 80 = .ok (.getfield 49, 3) := by decide +kernel
theorem dX5_weir_83 : decode cX5_weir 83 = .ok (.aload_n 0, 1) := by decide +kernel
theorem dX5_weir_84 : decode cX5_weir 84 = .ok (.getfield 35, 3) := by decide +kernel
theorem dX5_weir_87 : decode cX5_weir 87 = .ok (.iload_n 2, 1) := by decide +kernel
theorem dX5_weir_88 : decode cX5_weir 88 = .ok (.iastore, 1) := by decide +kernel
theorem dX5_weir_89 : decode cX5_weir 89 = .ok (.aload_n 0, 1) := by decide +kernel
theorem dX5_weir_90 : decode cX5_weir 90 = .ok (.getfield 24, 3) := by decide +kernel
theorem dX5_weir_93 : decode cX5_weir 93 = .ok (.getfield 52, 3) := by decide +kernel
theorem dX5_weir_96 : decode cX5_weir 96 = .ok (.aload_n 0, 1) := by decide +kernel
theorem dX5_weir_97 : decode cX5_weir 97 = .ok (.getfield 35, 3) := by decide +kernel
theorem dX5_weir_100 : decode cX5_weir 100 = .ok (.bipush 100, 2) := by decide +kernel
theorem dX5_weir_102 : decode cX5_weir 102 = .ok (.iastore, 1) := by decide +kernel
theorem dX5_weir_103 : decode cX5_weir 103 = .ok (.aload_n 0, 1) := by decide +kernel
theorem dX5_weir_104 : decode cX5_weir 104 = .ok (.getfield 24, 3) := by decide +kernel
theorem dX5_weir_107 : decode cX5_weir 107 = .ok (.getfield 55, 3) := by decide +kernel
theorem dX5_weir_110 : decode cX5_weir 110 = .ok (.aload_n 0, 1) := by decide +kernel
theorem dX5_weir_111 : decode cX5_weir 111 = .ok (.getfield 35, 3) := by decide +kernel
theorem dX5_weir_114 : decode cX5_weir 114 = .ok (.bipush 20, 2) := by decide +kernel
theorem dX5_weir_116 : decode cX5_weir 116 = .ok (.iastore, 1) := by decide +kernel
theorem dX5_weir_117 : decode cX5_weir 117 = .ok (.aload_n 0, 1) := by decide +kernel
theorem dX5_weir_118 : decode cX5_weir 118 = .ok (.dup, 1) := by decide +kernel
theorem dX5_weir_119 : decode cX5_weir 119 = .ok (.getfield 35, 3) := by decide +kernel
theorem dX5_weir_122 : decode cX5_weir 122 = .ok (.iconst 1, 1) := by decide +kernel
theorem dX5_weir_123 : decode cX5_weir 123 = .ok (.iadd, 1) := by decide +kernel
theorem dX5_weir_124 : decode cX5_weir 124 = .ok (.putfield 35, 3) := by decide +kernel
theorem dX5_weir_127 : decode cX5_weir 127 = .ok (.aload_n 0, 1) := by decide +kernel
theorem dX5_weir_128 : decode cX5_weir 128 = .ok (.getfield 35, 3) := by decide +kernel
theorem dX5_weir_131 : decode cX5_weir 131 = .ok (.iconst 1, 1) := by decide +kernel
theorem dX5_weir_132 : decode cX5_weir 132 = .ok (.isub, 1) := by decide +kernel
theorem dX5_weir_133 : decode cX5_weir 133 = .ok (.ireturn, 1) := by decide +kernel
set_option maxRecDepth 20000 in
theorem ggX5_gate_X5_isWeir : GoodIn wsX5_gate wsX5_isWeir := goodIn_r _ [7, 8, 9, 10, 6, 11, 18, 19, 20, 21, 22, 23, 24] (by decide +kernel) (by decide +kernel)
set_option maxRecDepth 20000 in
theorem gX5_gate_X5_isWeir : GoodIn wsX5_gate (wsV RX5 58 RX5 yX5_isWeir wsX5_isWeir) := goodIn_app (goodIn_of _ (by decide +kernel)) ggX5_gate_X5_isWeir
set_option maxRecDepth 20000 in
theorem ggX5_gate_X4_isHeld : GoodIn wsX5_gate wsX4_isHeld := goodIn_r _ [16, 17, 25, 26, 27, 28, 29, 30, 31, 32, 33, 34, 35, 36, 37, 38, 39, 40] (by decide +kernel) (by decide +kernel)
set_option maxRecDepth 20000 in
theorem gX5_gate_X4_isHeld : GoodIn wsX5_gate (wsV RX5 62 RX4 yX4_isHeld wsX4_isHeld) := goodIn_app (goodIn_of _ (by decide +kernel)) ggX5_gate_X4_isHeld
theorem dX5_gate_0 : decode cX5_gate 0 = .ok (.aload_n 0, 1) := by decide +kernel
theorem dX5_gate_1 : decode cX5_gate 1 = .ok (.aload_n 0, 1) := by decide +kernel
theorem dX5_gate_2 : decode cX5_gate 2 = .ok (.iload_n 1, 1) := by decide +kernel
theorem dX5_gate_3 : decode cX5_gate 3 = .ok (.invokevirtual 58, 3) := by decide +kernel
theorem dX5_gate_6 : decode cX5_gate 6 = .ok (.ifCond .ne 7, 3) := by decide +kernel
theorem dX5_gate_9 : decode cX5_gate 9 = .ok (.iconst 1, 1) := by decide +kernel
theorem dX5_gate_10 : decode cX5_gate 10 = .ok (.goto 19, 3) := by decide +kernel
theorem dX5_gate_13 : decode cX5_gate 13 = .ok (.aload_n 0, 1) := by decide +kernel
theorem dX5_gate_14 : decode cX5_gate 14 = .ok (.getfield 24, 3) := by decide +kernel
theorem dX5_gate_17 : decode cX5_gate 17 = .ok (.iload_n 1, 1) := by decide +kernel
theorem dX5_gate_18 : decode cX5_gate 18 = .ok (.invokevirtual 62, 3) := by decide +kernel
theorem dX5_gate_21 : decode cX5_gate 21 = .ok (.ifCond .eq 7, 3) := by decide +kernel
theorem dX5_gate_24 : decode cX5_gate 24 = .ok (.iconst 0, 1) := by decide +kernel
theorem dX5_gate_25 : decode cX5_gate 25 = .ok (.goto 4, 3) := by decide +kernel
theorem dX5_gate_28 : decode cX5_gate 28 = .ok (.iconst 2, 1) := by decide +kernel
theorem dX5_gate_29 : decode cX5_gate 29 = .ok (.putfield 31, 3) := by decide +kernel
theorem dX5_gate_32 : decode cX5_gate 32 = .ok (.aload_n 0, 1) := by decide +kernel
theorem dX5_gate_33 : decode cX5_gate 33 = .ok (.getfield 31, 3) := by decide +kernel
theorem dX5_gate_36 : decode cX5_gate 36 = .ok (.ifCond .eq 5, 3) := by decide +kernel
theorem dX5_gate_39 : decode cX5_gate 39 = .ok (.iconst 0, 1) := by decide +kernel
theorem dX5_gate_40 : decode cX5_gate 40 = .ok (.ireturn, 1) := by decide +kernel
theorem dX5_gate_41 : decode cX5_gate 41 = .ok (.aload_n 0, 1) := by decide +kernel
theorem dX5_gate_42 : decode cX5_gate 42 = .ok (.getfield 24, 3) := by decide +kernel
theorem dX5_gate_45 : decode cX5_gate 45 = .ok (.getfield 65, 3) := by decide +kernel
theorem dX5_gate_48 : decode cX5_gate 48 = .ok (.iload_n 1, 1) := by decide +kernel
theorem dX5_gate_49 : decode cX5_gate 49 = .ok (.iconst 1, 1) := by decide +kernel
theorem dX5_gate_50 : decode cX5_gate 50 = .ok (.aload_n 0, 1) := by decide +kernel
theorem dX5_gate_51 : decode cX5_gate 51 = .ok (.getfield 24, 3) := by decide +kernel
theorem dX5_gate_54 : decode cX5_gate 54 = .ok (.getfield 65, 3) := by decide +kernel
theorem dX5_gate_57 : decode cX5_gate 57 = .ok (.iload_n 1, 1) := by decide +kernel
theorem dX5_gate_58 : decode cX5_gate 58 = .ok (.iaload, 1) := by decide +kernel
theorem dX5_gate_59 : decode cX5_gate 59 = .ok (.isub, 1) := by decide +kernel
theorem dX5_gate_60 : decode cX5_gate 60 = .ok (.iastore, 1) := by decide +kernel
theorem dX5_gate_61 : decode cX5_gate 61 = .ok (.aload_n 0, 1) := by decide +kernel
theorem dX5_gate_62 : decode cX5_gate 62 = .ok (.getfield 24, 3) := by decide +kernel
theorem dX5_gate_65 : decode cX5_gate 65 = .ok (.getfield 65, 3) := by decide +kernel
theorem dX5_gate_68 : decode cX5_gate 68 = .ok (.iload_n 1, 1) := by decide +kernel
theorem dX5_gate_69 : decode cX5_gate 69 = .ok (.iaload, 1) := by decide +kernel
theorem dX5_gate_70 : decode cX5_gate 70 = .ok (.iconst 1, 1) := by decide +kernel
theorem dX5_gate_71 : decode cX5_gate 71 = .ok (.if_icmp .ne 7, 3) := by decide +kernel
theorem dX5_gate_74 : decode cX5_gate 74 = .ok (.iconst 1, 1) := by decide +kernel
theorem dX5_gate_75 : decode cX5_gate 75 = .ok (.goto 4, 3) := by decide +kernel
theorem dX5_gate_78 : decode cX5_gate 78 = .ok (.iconst 0, 1) := by decide +kernel
theorem dX5_gate_79 : decode cX5_gate 79 = .ok (.ireturn, 1) := by decide +kernel
set_option maxRecDepth 20000 in
theorem ggX5_mend_X5_isWeir : GoodIn wsX5_mend wsX5_isWeir := goodIn_r _ [7, 8, 9, 10, 6, 11, 22, 23, 24, 25, 26, 27, 28] (by decide +kernel) (by decide +kernel)
set_option maxRecDepth 20000 in
theorem gX5_mend_X5_isWeir : GoodIn wsX5_mend (wsV RX5 58 RX5 yX5_isWeir wsX5_isWeir) := goodIn_app (goodIn_of _ (by decide +kernel)) ggX5_mend_X5_isWeir
set_option maxRecDepth 20000 in
theorem ggX5_mend_X5_no : GoodIn wsX5_mend wsX5_no := goodIn_r _ [15, 1, 22, 23, 24, 25, 26, 27, 28] (by decide +kernel) (by decide +kernel)
set_option maxRecDepth 20000 in
theorem gX5_mend_X5_no : GoodIn wsX5_mend (wsV RX5 45 RX5 yX5_no wsX5_no) := goodIn_app (goodIn_of _ (by decide +kernel)) ggX5_mend_X5_no
set_option maxRecDepth 20000 in
theorem ggX5_mend_X5_isIn : GoodIn wsX5_mend wsX5_isIn := goodIn_r _ [11] (by decide +kernel) (by decide +kernel)
set_option maxRecDepth 20000 in
theorem gX5_mend_X5_isIn : GoodIn wsX5_mend (va_wsS RX5 38 yX5_isIn wsX5_isIn) := goodIn_app (goodIn_of _ (by decide +kernel)) ggX5_mend_X5_isIn
set_option maxRecDepth 20000 in
theorem ggX5_mend_X4_isHeld : GoodIn wsX5_mend wsX4_isHeld := goodIn_r _ [20, 21, 29, 30, 31, 32, 33, 34, 35, 36, 37, 38, 39, 40, 41, 42, 43, 44] (by decide +kernel) (by decide +kernel)
set_option maxRecDepth 20000 in
theorem gX5_mend_X4_isHeld : GoodIn wsX5_mend (wsV RX5 62 RX4 yX4_isHeld wsX4_isHeld) := goodIn_app (goodIn_of _ (by decide +kernel)) ggX5_mend_X4_isHeld
theorem dX5_mend_0 : decode cX5_mend 0 = .ok (.aload_n 0, 1) := by decide +kernel
theorem dX5_mend_1 : decode cX5_mend 1 = .ok (.iconst 0, 1) := by decide +kernel
theorem dX5_mend_2 : decode cX5_mend 2 = .ok (.putfield 31, 3) := by decide +kernel
theorem dX5_mend_5 : decode cX5_mend 5 = .ok (.aload_n 0, 1) := by decide +kernel
theorem dX5_mend_6 : decode cX5_mend 6 = .ok (.iload_n 1, 1) := by decide +kernel
theorem dX5_mend_7 : decode cX5_mend 7 = .ok (.invokevirtual 58, 3) := by decide +kernel
theorem dX5_mend_10 : decode cX5_mend 10 = .ok (.ifCond .ne 9, 3) := by decide +kernel
theorem dX5_mend_13 : decode cX5_mend 13 = .ok (.aload_n 0, 1) := by decide +kernel
theorem dX5_mend_14 : decode cX5_mend 14 = .ok (.iconst 1, 1) := by decide +kernel
theorem dX5_mend_15 : decode cX5_mend 15 = .ok (.invokevirtual 45, 3) := by decide +kernel
theorem dX5_mend_18 : decode cX5_mend 18 = .ok (.ireturn, 1) := by decide +kernel
theorem dX5_mend_19 : decode cX5_mend 19 = .ok (.iload_n 2, 1) := by decide +kernel
theorem dX5_mend_20 : decode cX5_mend 20 = .ok (.iconst 1, 1) := by decide +kernel
theorem dX5_mend_21 : decode cX5_mend 21 = .ok (.bipush 100, 2) := by decide +kernel
theorem dX5_mend_23 : decode cX5_mend 23 = .ok (.invokestatic 38, 3) := by decide +kernel
theorem dX5_mend_26 : decode cX5_mend 26 = .ok (.ifCond .ne 9, 3) := by decide +kernel
theorem dX5_mend_29 : decode cX5_mend 29 = .ok (.aload_n 0, 1) := by decide +kernel
theorem dX5_mend_30 : decode cX5_mend 30 = .ok (.iconst 2, 1) := by decide +kernel
theorem dX5_mend_31 : decode cX5_mend 31 = .ok (.invokevirtual 45, 3) := by decide +kernel
theorem dX5_mend_34 : decode cX5_mend 34 = .ok (.ireturn, 1) := by decide +kernel
theorem dX5_mend_35 : decode cX5_mend 35 = .ok (.iload_n 2, 1) := by decide +kernel
theorem dX5_mend_36 : decode cX5_mend 36 = .ok (.iconst 4, 1) := by decide +kernel
theorem dX5_mend_37 : decode cX5_mend 37 = .ok (.iadd, 1) := by decide +kernel
theorem dX5_mend_38 : decode cX5_mend 38 = .ok (.iconst 5, 1) := by decide +kernel
theorem dX5_mend_39 : decode cX5_mend 39 = .ok (.idiv, 1) := by decide +kernel
theorem dX5_mend_40 : decode cX5_mend 40 = .ok (.istore_n 3, 1) := by decide +kernel
theorem dX5_mend_41 : decode cX5_mend 41 = .ok (.aload_n 0, 1) := by decide +kernel
theorem dX5_mend_42 : decode cX5_mend 42 = .ok (.getfield 24, 3) := by decide +kernel
theorem dX5_mend_45 : decode cX5_mend 45 = .ok (.iload_n 1, 1) := by decide +kernel
theorem dX5_mend_46 : decode cX5_mend 46 = .ok (.invokevirtual 62, 3) := by decide +kernel
theorem dX5_mend_49 : decode cX5_mend 49 = .ok (.ifCond .eq 32, 3) := by decide +kernel
theorem dX5_mend_52 : decode cX5_mend 52 = .ok (.aload_n 0, 1) := by decide +kernel
theorem dX5_mend_53 : decode cX5_mend 53 = .ok (.getfield 24, 3) := by decide +kernel
theorem dX5_mend_56 : decode cX5_mend 56 = .ok (.getfield 52, 3) := by decide +kernel
theorem dX5_mend_59 : decode cX5_mend 59 = .ok (.iload_n 1, 1) := by decide +kernel
theorem dX5_mend_60 : decode cX5_mend 60 = .ok (.iaload, 1) := by decide +kernel
theorem dX5_mend_61 : decode cX5_mend 61 = .ok (.iload_n 2, 1) := by decide +kernel
theorem dX5_mend_62 : decode cX5_mend 62 = .ok (.iadd, 1) := by decide +kernel
theorem dX5_mend_63 : decode cX5_mend 63 = .ok (.bipush 100, 2) := by decide +kernel
theorem dX5_mend_65 : decode cX5_mend 65 = .ok (.if_icmp .gt 16, 3) := by decide +kernel
theorem dX5_mend_68 : decode cX5_mend 68 = .ok (.aload_n 0, 1) := by decide +kernel
theorem dX5_mend_69 : decode cX5_mend 69 = .ok (.getfield 24, 3) := by decide +kernel
theorem dX5_mend_72 : decode cX5_mend 72 = .ok (.getfield 55, 3) := by decide +kernel
theorem dX5_mend_75 : decode cX5_mend 75 = .ok (.iload_n 1, 1) := by decide +kernel
theorem dX5_mend_76 : decode cX5_mend 76 = .ok (.iaload, 1) := by decide +kernel
theorem dX5_mend_77 : decode cX5_mend 77 = .ok (.iload_n 3, 1) := by decide +kernel
theorem dX5_mend_78 : decode cX5_mend 78 = .ok (.if_icmp .ge 9, 3) := by decide +kernel
theorem dX5_mend_81 : decode cX5_mend 81 = .ok (.aload_n 0, 1) := by decide +kernel
theorem dX5_mend_82 : decode cX5_mend 82 = .ok (.iconst 3, 1) := by decide +kernel
theorem dX5_mend_83 : decode cX5_mend 83 = .ok (.invokevirtual 45, 3) := by decide +kernel
theorem dX5_mend_86 : decode cX5_mend 86 = .ok (.ireturn, 1) := by decide +kernel
theorem dX5_mend_87 : decode cX5_mend 87 = .ok (.aload_n 0, 1) := by decide +kernel
theorem dX5_mend_88 : decode cX5_mend 88 = .ok (.getfield 24, 3) := by decide +kernel
theorem dX5_mend_91 : decode cX5_mend 91 = .ok (.getfield 55, 3) := by decide +kernel
theorem dX5_mend_94 : decode cX5_mend 94 = .ok (.iload_n 1, 1) := by decide +kernel
theorem dX5_mend_95 : decode cX5_mend 95 = .ok (.dup2, 1) := by decide +kernel
theorem dX5_mend_96 : decode cX5_mend 96 = .ok (.iaload, 1) := by decide +kernel
theorem dX5_mend_97 : decode cX5_mend 97 = .ok (.iload_n 3, 1) := by decide +kernel
theorem dX5_mend_98 : decode cX5_mend 98 = .ok (.isub, 1) := by decide +kernel
theorem dX5_mend_99 : decode cX5_mend 99 = .ok (.iastore, 1) := by decide +kernel
theorem dX5_mend_100 : decode cX5_mend 100 = .ok (.aload_n 0, 1) := by decide +kernel
theorem dX5_mend_101 : decode cX5_mend 101 = .ok (.getfield 24, 3) := by decide +kernel
theorem dX5_mend_104 : decode cX5_mend 104 = .ok (.getfield 52, 3) := by decide +kernel
theorem dX5_mend_107 : decode cX5_mend 107 = .ok (.iload_n 1, 1) := by decide +kernel
theorem dX5_mend_108 : decode cX5_mend 108 = .ok (.dup2, 1) := by decide +kernel
theorem dX5_mend_109 : decode cX5_mend 109 = .ok (.iaload, 1) := by decide +kernel
theorem dX5_mend_110 : decode cX5_mend 110 = .ok (.iload_n 2, 1) := by decide +kernel
theorem dX5_mend_111 : decode cX5_mend 111 = .ok (.iadd, 1) := by decide +kernel
theorem dX5_mend_112 : decode cX5_mend 112 = .ok (.iastore, 1) := by decide +kernel
theorem dX5_mend_113 : decode cX5_mend 113 = .ok (.aload_n 0, 1) := by decide +kernel
theorem dX5_mend_114 : decode cX5_mend 114 = .ok (.getfield 24, 3) := by decide +kernel
theorem dX5_mend_117 : decode cX5_mend 117 = .ok (.getfield 52, 3) := by decide +kernel
theorem dX5_mend_120 : decode cX5_mend 120 = .ok (.iload_n 1, 1) := by decide +kernel
theorem dX5_mend_121 : decode cX5_mend 121 = .ok (.iaload, 1) := by decide +kernel
theorem dX5_mend_122 : decode cX5_mend 122 = .ok (.ireturn, 1) := by decide +kernel
set_option maxRecDepth 20000 in
theorem ggX5_drive_X5_isWeir : GoodIn wsX5_drive wsX5_isWeir := goodIn_r _ [7, 8, 9, 10, 6, 11, 22, 23, 24, 25, 26, 27, 28] (by decide +kernel) (by decide +kernel)
set_option maxRecDepth 20000 in
theorem gX5_drive_X5_isWeir : GoodIn wsX5_drive (wsV RX5 58 RX5 yX5_isWeir wsX5_isWeir) := goodIn_app (goodIn_of _ (by decide +kernel)) ggX5_drive_X5_isWeir
set_option maxRecDepth 20000 in
theorem ggX5_drive_X5_no : GoodIn wsX5_drive wsX5_no := goodIn_r _ [15, 1, 22, 23, 24, 25, 26, 27, 28] (by decide +kernel) (by decide +kernel)
set_option maxRecDepth 20000 in
theorem gX5_drive_X5_no : GoodIn wsX5_drive (wsV RX5 45 RX5 yX5_no wsX5_no) := goodIn_app (goodIn_of _ (by decide +kernel)) ggX5_drive_X5_no
set_option maxRecDepth 20000 in
theorem ggX5_drive_X5_isIn : GoodIn wsX5_drive wsX5_isIn := goodIn_r _ [11] (by decide +kernel) (by decide +kernel)
set_option maxRecDepth 20000 in
theorem gX5_drive_X5_isIn : GoodIn wsX5_drive (va_wsS RX5 38 yX5_isIn wsX5_isIn) := goodIn_app (goodIn_of _ (by decide +kernel)) ggX5_drive_X5_isIn
set_option maxRecDepth 20000 in
theorem ggX5_drive_X4_isHeld : GoodIn wsX5_drive wsX4_isHeld := goodIn_r _ [20, 21, 29, 30, 31, 32, 33, 34, 35, 36, 37, 38, 39, 40, 41, 42, 43, 44] (by decide +kernel) (by decide +kernel)
set_option maxRecDepth 20000 in
theorem gX5_drive_X4_isHeld : GoodIn wsX5_drive (wsV RX5 62 RX4 yX4_isHeld wsX4_isHeld) := goodIn_app (goodIn_of _ (by decide +kernel)) ggX5_drive_X4_isHeld
theorem dX5_drive_0 : decode cX5_drive 0 = .ok (.aload_n 0, 1) := by decide +kernel
theorem dX5_drive_1 : decode cX5_drive 1 = .ok (.iconst 0, 1) := by decide +kernel
theorem dX5_drive_2 : decode cX5_drive 2 = .ok (.putfield 31, 3) := by decide +kernel
theorem dX5_drive_5 : decode cX5_drive 5 = .ok (.aload_n 0, 1) := by decide +kernel
theorem dX5_drive_6 : decode cX5_drive 6 = .ok (.iload_n 1, 1) := by decide +kernel
theorem dX5_drive_7 : decode cX5_drive 7 = .ok (.invokevirtual 58, 3) := by decide +kernel
theorem dX5_drive_10 : decode cX5_drive 10 = .ok (.ifCond .ne 9, 3) := by decide +kernel
theorem dX5_drive_13 : decode cX5_drive 13 = .ok (.aload_n 0, 1) := by decide +kernel
theorem dX5_drive_14 : decode cX5_drive 14 = .ok (.iconst 1, 1) := by decide +kernel
theorem dX5_drive_15 : decode cX5_drive 15 = .ok (.invokevirtual 45, 3) := by decide +kernel
theorem dX5_drive_18 : decode cX5_drive 18 = .ok (.ireturn, 1) := by decide +kernel
theorem dX5_drive_19 : decode cX5_drive 19 = .ok (.iload_n 2, 1) := by decide +kernel
theorem dX5_drive_20 : decode cX5_drive 20 = .ok (.iconst 1, 1) := by decide +kernel
theorem dX5_drive_21 : decode cX5_drive 21 = .ok (.bipush 30, 2) := by decide +kernel
theorem dX5_drive_23 : decode cX5_drive 23 = .ok (.invokestatic 38, 3) := by decide +kernel
theorem dX5_drive_26 : decode cX5_drive 26 = .ok (.ifCond .ne 9, 3) := by decide +kernel
theorem dX5_drive_29 : decode cX5_drive 29 = .ok (.aload_n 0, 1) := by decide +kernel
theorem dX5_drive_30 : decode cX5_drive 30 = .ok (.iconst 2, 1) := by decide +kernel
theorem dX5_drive_31 : decode cX5_drive 31 = .ok (.invokevirtual 45, 3) := by decide +kernel
theorem dX5_drive_34 : decode cX5_drive 34 = .ok (.ireturn, 1) := by decide +kernel
theorem dX5_drive_35 : decode cX5_drive 35 = .ok (.aload_n 0, 1) := by decide +kernel
theorem dX5_drive_36 : decode cX5_drive 36 = .ok (.getfield 24, 3) := by decide +kernel
theorem dX5_drive_39 : decode cX5_drive 39 = .ok (.iload_n 1, 1) := by decide +kernel
theorem dX5_drive_40 : decode cX5_drive 40 = .ok (.invokevirtual 62, 3) := by decide +kernel
theorem dX5_drive_43 : decode cX5_drive 43 = .ok (.ifCond .eq 34, 3) := by decide +kernel
theorem dX5_drive_46 : decode cX5_drive 46 = .ok (.aload_n 0, 1) := by decide +kernel
theorem dX5_drive_47 : decode cX5_drive 47 = .ok (.getfield 24, 3) := by decide +kernel
theorem dX5_drive_50 : decode cX5_drive 50 = .ok (.getfield 49, 3) := by decide +kernel
theorem dX5_drive_53 : decode cX5_drive 53 = .ok (.iload_n 1, 1) := by decide +kernel
theorem dX5_drive_54 : decode cX5_drive 54 = .ok (.iaload, 1) := by decide +kernel
theorem dX5_drive_55 : decode cX5_drive 55 = .ok (.iload_n 2, 1) := by decide +kernel
theorem dX5_drive_56 : decode cX5_drive 56 = .ok (.iadd, 1) := by decide +kernel
theorem dX5_drive_57 : decode cX5_drive 57 = .ok (.bipush 30, 2) := by decide +kernel
theorem dX5_drive_59 : decode cX5_drive 59 = .ok (.if_icmp .gt 18, 3) := by decide +kernel
theorem dX5_drive_62 : decode cX5_drive 62 = .ok (.aload_n 0, 1) := by decide +kernel
theorem dX5_drive_63 : decode cX5_drive 63 = .ok (.getfield 24, 3) := by decide +kernel
theorem dX5_drive_66 : decode cX5_drive 66 = .ok (.getfield 55, 3) := by decide +kernel
theorem dX5_drive_69 : decode cX5_drive 69 = .ok (.iload_n 1, 1) := by decide +kernel
theorem dX5_drive_70 : decode cX5_drive 70 = .ok (.iaload, 1) := by decide +kernel
theorem dX5_drive_71 : decode cX5_drive 71 = .ok (.iconst 2, 1) := by decide +kernel
theorem dX5_drive_72 : decode cX5_drive 72 = .ok (.iload_n 2, 1) := by decide +kernel
theorem dX5_drive_73 : decode cX5_drive 73 = .ok (.imul, 1) := by decide +kernel
theorem dX5_drive_74 : decode cX5_drive 74 = .ok (.if_icmp .ge 9, 3) := by decide +kernel
theorem dX5_drive_77 : decode cX5_drive 77 = .ok (.aload_n 0, 1) := by decide +kernel
theorem dX5_drive_78 : decode cX5_drive 78 = .ok (.iconst 3, 1) := by decide +kernel
theorem dX5_drive_79 : decode cX5_drive 79 = .ok (.invokevirtual 45, 3) := by decide +kernel
theorem dX5_drive_82 : decode cX5_drive 82 = .ok (.ireturn, 1) := by decide +kernel
theorem dX5_drive_83 : decode cX5_drive 83 = .ok (.aload_n 0, 1) := by decide +kernel
theorem dX5_drive_84 : decode cX5_drive 84 = .ok (.getfield 24, 3) := by decide +kernel
theorem dX5_drive_87 : decode cX5_drive 87 = .ok (.getfield 55, 3) := by decide +kernel
theorem dX5_drive_90 : decode cX5_drive 90 = .ok (.iload_n 1, 1) := by decide +kernel
theorem dX5_drive_91 : decode cX5_drive 91 = .ok (.dup2, 1) := by decide +kernel
theorem dX5_drive_92 : decode cX5_drive 92 = .ok (.iaload, 1) := by decide +kernel
theorem dX5_drive_93 : decode cX5_drive 93 = .ok (.iconst 2, 1) := by decide +kernel
theorem dX5_drive_94 : decode cX5_drive 94 = .ok (.iload_n 2, 1) := by decide +kernel
theorem dX5_drive_95 : decode cX5_drive 95 = .ok (.imul, 1) := by decide +kernel
theorem dX5_drive_96 : decode cX5_drive 96 = .ok (.isub, 1) := by decide +kernel
theorem dX5_drive_97 : decode cX5_drive 97 = .ok (.iastore, 1) := by decide +kernel
theorem dX5_drive_98 : decode cX5_drive 98 = .ok (.aload_n 0, 1) := by decide +kernel
theorem dX5_drive_99 : decode cX5_drive 99 = .ok (.getfield 24, 3) := by decide +kernel
theorem dX5_drive_102 : decode cX5_drive 102 = .ok (.getfield 49, 3) := by decide +kernel
theorem dX5_drive_105 : decode cX5_drive 105 = .ok (.iload_n 1, 1) := by decide +kernel
theorem dX5_drive_106 : decode cX5_drive 106 = .ok (.dup2, 1) := by decide +kernel
theorem dX5_drive_107 : decode cX5_drive 107 = .ok (.iaload, 1) := by decide +kernel
theorem dX5_drive_108 : decode cX5_drive 108 = .ok (.iload_n 2, 1) := by decide +kernel
theorem dX5_drive_109 : decode cX5_drive 109 = .ok (.iadd, 1) := by decide +kernel
theorem dX5_drive_110 : decode cX5_drive 110 = .ok (.iastore, 1) := by decide +kernel
theorem dX5_drive_111 : decode cX5_drive 111 = .ok (.aload_n 0, 1) := by decide +kernel
theorem dX5_drive_112 : decode cX5_drive 112 = .ok (.getfield 24, 3) := by decide +kernel
theorem dX5_drive_115 : decode cX5_drive 115 = .ok (.getfield 49, 3) := by decide +kernel
theorem dX5_drive_118 : decode cX5_drive 118 = .ok (.iload_n 1, 1) := by decide +kernel
theorem dX5_drive_119 : decode cX5_drive 119 = .ok (.iaload, 1) := by decide +kernel
theorem dX5_drive_120 : decode cX5_drive 120 = .ok (.ireturn, 1) := by decide +kernel
set_option maxRecDepth 20000 in
theorem ggX5_sell_X5_isWeir : GoodIn wsX5_sell wsX5_isWeir := goodIn_r _ [7, 8, 9, 10, 6, 11, 27, 28, 29, 30, 31, 32, 33] (by decide +kernel) (by decide +kernel)
set_option maxRecDepth 20000 in
theorem gX5_sell_X5_isWeir : GoodIn wsX5_sell (wsV RX5 58 RX5 yX5_isWeir wsX5_isWeir) := goodIn_app (goodIn_of _ (by decide +kernel)) ggX5_sell_X5_isWeir
set_option maxRecDepth 20000 in
theorem ggX5_sell_X5_no : GoodIn wsX5_sell wsX5_no := goodIn_r _ [15, 1, 27, 28, 29, 30, 31, 32, 33] (by decide +kernel) (by decide +kernel)
set_option maxRecDepth 20000 in
theorem gX5_sell_X5_no : GoodIn wsX5_sell (wsV RX5 45 RX5 yX5_no wsX5_no) := goodIn_app (goodIn_of _ (by decide +kernel)) ggX5_sell_X5_no
set_option maxRecDepth 20000 in
theorem ggX5_sell_X4_isHeld : GoodIn wsX5_sell wsX4_isHeld := goodIn_r _ [20, 21, 34, 35, 36, 37, 38, 39, 40, 41, 42, 43, 44, 45, 46, 47, 48, 49] (by decide +kernel) (by decide +kernel)
set_option maxRecDepth 20000 in
theorem gX5_sell_X4_isHeld : GoodIn wsX5_sell (wsV RX5 62 RX4 yX4_isHeld wsX4_isHeld) := goodIn_app (goodIn_of _ (by decide +kernel)) ggX5_sell_X4_isHeld
set_option maxRecDepth 20000 in
theorem ggX5_sell_X4_moon : GoodIn wsX5_sell wsX4_moon := goodIn_r _ [25, 26, 34, 35, 36, 37, 38, 39, 40, 41, 42, 43, 44, 45, 46, 47, 48, 49] (by decide +kernel) (by decide +kernel)
set_option maxRecDepth 20000 in
theorem gX5_sell_X4_moon : GoodIn wsX5_sell (wsV RX5 71 RX4 yX4_moon wsX4_moon) := goodIn_app (goodIn_of _ (by decide +kernel)) ggX5_sell_X4_moon
theorem dX5_sell_0 : decode cX5_sell 0 = .ok (.aload_n 0, 1) := by decide +kernel
theorem dX5_sell_1 : decode cX5_sell 1 = .ok (.iconst 0, 1) := by decide +kernel
theorem dX5_sell_2 : decode cX5_sell 2 = .ok (.putfield 31, 3) := by decide +kernel
theorem dX5_sell_5 : decode cX5_sell 5 = .ok (.aload_n 0, 1) := by decide +kernel
theorem dX5_sell_6 : decode cX5_sell 6 = .ok (.iload_n 1, 1) := by decide +kernel
theorem dX5_sell_7 : decode cX5_sell 7 = .ok (.invokevirtual 58, 3) := by decide +kernel
theorem dX5_sell_10 : decode cX5_sell 10 = .ok (.ifCond .ne 9, 3) := by decide +kernel
theorem dX5_sell_13 : decode cX5_sell 13 = .ok (.aload_n 0, 1) := by decide +kernel
theorem dX5_sell_14 : decode cX5_sell 14 = .ok (.iconst 1, 1) := by decide +kernel
theorem dX5_sell_15 : decode cX5_sell 15 = .ok (.invokevirtual 45, 3) := by decide +kernel
theorem dX5_sell_18 : decode cX5_sell 18 = .ok (.ireturn, 1) := by decide +kernel
theorem dX5_sell_19 : decode cX5_sell 19 = .ok (.aload_n 0, 1) := by decide +kernel
theorem dX5_sell_20 : decode cX5_sell 20 = .ok (.getfield 24, 3) := by decide +kernel
theorem dX5_sell_23 : decode cX5_sell 23 = .ok (.iload_n 1, 1) := by decide +kernel
theorem dX5_sell_24 : decode cX5_sell 24 = .ok (.invokevirtual 62, 3) := by decide +kernel
theorem dX5_sell_27 : decode cX5_sell 27 = .ok (.ifCond .eq 15, 3) := by decide +kernel
theorem dX5_sell_30 : decode cX5_sell 30 = .ok (.aload_n 0, 1) := by decide +kernel
theorem dX5_sell_31 : decode cX5_sell 31 = .ok (.getfield 24, 3) := by decide +kernel
theorem dX5_sell_34 : decode cX5_sell 34 = .ok (.getfield 68, 3) := by decide +kernel
theorem dX5_sell_37 : decode cX5_sell 37 = .ok (.iload_n 1, 1) := by decide +kernel
theorem dX5_sell_38 : decode cX5_sell 38 = .ok (.iaload, 1) := by decide +kernel
theorem dX5_sell_39 : decode cX5_sell 39 = .ok (.ifCond .ne 9, 3) := by decide +kernel
theorem dX5_sell_42 : decode cX5_sell 42 = .ok (.aload_n 0, 1) := by decide +kernel
theorem dX5_sell_43 : decode cX5_sell 43 = .ok (.iconst 2, 1) := by decide +kernel
theorem dX5_sell_44 : decode cX5_sell 44 = .ok (.invokevirtual 45, 3) := by decide +kernel
theorem dX5_sell_47 : decode cX5_sell 47 = .ok (.ireturn, 1) := by decide +kernel
theorem dX5_sell_48 : decode cX5_sell 48 = .ok (.aload_n 0, 1) := by decide +kernel
theorem dX5_sell_49 : decode cX5_sell 49 = .ok (.getfield 24, 3) := by decide +kernel
theorem dX5_sell_52 : decode cX5_sell 52 = .ok (.getfield 68, 3) := by decide +kernel
theorem dX5_sell_55 : decode cX5_sell 55 = .ok (.iload_n 1, 1) := by decide +kernel
theorem dX5_sell_56 : decode cX5_sell 56 = .ok (.iaload, 1) := by decide +kernel
theorem dX5_sell_57 : decode cX5_sell 57 = .ok (.istore_n 2, 1) := by decide +kernel
theorem dX5_sell_58 : decode cX5_sell 58 = .ok (.aload_n 0, 1) := by decide +kernel
theorem dX5_sell_59 : decode cX5_sell 59 = .ok (.getfield 24, 3) := by decide +kernel
theorem dX5_sell_62 : decode cX5_sell 62 = .ok (.invokevirtual 71, 3) := by decide +kernel
theorem dX5_sell_65 : decode cX5_sell 65 = .ok (.ifCond .ne 9, 3) := by decide +kernel
theorem dX5_sell_68 : decode cX5_sell 68 = .ok (.iload_n 2, 1) := by decide +kernel
theorem dX5_sell_69 : decode cX5_sell 69 = .ok (.iconst 2, 1) := by decide +kernel
theorem dX5_sell_70 : decode cX5_sell 70 = .ok (.idiv, 1) := by decide +kernel
theorem dX5_sell_71 : decode cX5_sell 71 = .ok (.goto 23, 3) := by decide +kernel
theorem dX5_sell_74 : decode cX5_sell 74 = .ok (.aload_n 0, 1) := by decide +kernel
theorem dX5_sell_75 : decode cX5_sell 75 = .ok (.getfield 24, 3) := by decide +kernel
theorem dX5_sell_78 : decode cX5_sell 78 = .ok (.invokevirtual 71, 3) := by decide +kernel
theorem dX5_sell_81 : decode cX5_sell 81 = .ok (.iconst 1, 1) := by decide +kernel
theorem dX5_sell_82 : decode cX5_sell 82 = .ok (.if_icmp .ne 7, 3) := by decide +kernel
theorem dX5_sell_85 : decode cX5_sell 85 = .ok (.iload_n 2, 1) := by decide +kernel
theorem dX5_sell_86 : decode cX5_sell 86 = .ok (.goto 8, 3) := by decide +kernel
theorem dX5_sell_89 : decode cX5_sell 89 = .ok (.iload_n 2, 1) := by decide +kernel
theorem dX5_sell_90 : decode cX5_sell 90 = .ok (.iload_n 2, 1) := by decide +kernel
theorem dX5_sell_91 : decode cX5_sell 91 = .ok (.iconst 2, 1) := by decide +kernel
theorem dX5_sell_92 : decode cX5_sell 92 = .ok (.idiv, 1) := by decide +kernel
theorem dX5_sell_93 : decode cX5_sell 93 = .ok (.iadd, 1) := by decide +kernel
theorem dX5_sell_94 : decode cX5_sell 94 = .ok (.istore_n 3, 1) := by decide +kernel
theorem dX5_sell_95 : decode cX5_sell 95 = .ok (.aload_n 0, 1) := by decide +kernel
theorem dX5_sell_96 : decode cX5_sell 96 = .ok (.getfield 24, 3) := by decide +kernel
theorem dX5_sell_99 : decode cX5_sell 99 = .ok (.getfield 68, 3) := by decide +kernel
theorem dX5_sell_102 : decode cX5_sell 102 = .ok (.iload_n 1, 1) := by decide +kernel
theorem dX5_sell_103 : decode cX5_sell 103 = .ok (.iconst 0, 1) := by decide +kernel
theorem dX5_sell_104 : decode cX5_sell 104 = .ok (.iastore, 1) := by decide +kernel
theorem dX5_sell_105 : decode cX5_sell 105 = .ok (.aload_n 0, 1) := by decide +kernel
theorem dX5_sell_106 : decode cX5_sell 106 = .ok (.getfield 24, 3) := by decide +kernel
theorem dX5_sell_109 : decode cX5_sell 109 = .ok (.getfield 55, 3) := by decide +kernel
theorem dX5_sell_112 : decode cX5_sell 112 = .ok (.iload_n 1, 1) := by decide +kernel
theorem dX5_sell_113 : decode cX5_sell 113 = .ok (.dup2, 1) := by decide +kernel
theorem dX5_sell_114 : decode cX5_sell 114 = .ok (.iaload, 1) := by decide +kernel
theorem dX5_sell_115 : decode cX5_sell 115 = .ok (.iload_n 3, 1) := by decide +kernel
theorem dX5_sell_116 : decode cX5_sell 116 = .ok (.iadd, 1) := by decide +kernel
theorem dX5_sell_117 : decode cX5_sell 117 = .ok (.iastore, 1) := by decide +kernel
theorem dX5_sell_118 : decode cX5_sell 118 = .ok (.iload_n 3, 1) := by decide +kernel
theorem dX5_sell_119 : decode cX5_sell 119 = .ok (.ireturn, 1) := by decide +kernel
set_option maxRecDepth 20000 in
theorem ggX5_setRun_X5_isIn : GoodIn wsX5_setRun wsX5_isIn := goodIn_r _ [6] (by decide +kernel) (by decide +kernel)
set_option maxRecDepth 20000 in
theorem gX5_setRun_X5_isIn : GoodIn wsX5_setRun (va_wsS RX5 38 yX5_isIn wsX5_isIn) := goodIn_app (goodIn_of _ (by decide +kernel)) ggX5_setRun_X5_isIn
set_option maxRecDepth 20000 in
theorem ggX5_setRun_X5_no : GoodIn wsX5_setRun wsX5_no := goodIn_r _ [10, 1, 11, 12, 13, 14, 15, 16, 17] (by decide +kernel) (by decide +kernel)
set_option maxRecDepth 20000 in
theorem gX5_setRun_X5_no : GoodIn wsX5_setRun (wsV RX5 45 RX5 yX5_no wsX5_no) := goodIn_app (goodIn_of _ (by decide +kernel)) ggX5_setRun_X5_no
theorem dX5_setRun_0 : decode cX5_setRun 0 = .ok (.aload_n 0, 1) := by decide +kernel
theorem dX5_setRun_1 : decode cX5_setRun 1 = .ok (.iconst 0, 1) := by decide +kernel
theorem dX5_setRun_2 : decode cX5_setRun 2 = .ok (.putfield 31, 3) := by decide +kernel
theorem dX5_setRun_5 : decode cX5_setRun 5 = .ok (.iload_n 1, 1) := by decide +kernel
theorem dX5_setRun_6 : decode cX5_setRun 6 = .ok (.iconst 0, 1) := by decide +kernel
theorem dX5_setRun_7 : decode cX5_setRun 7 = .ok (.bipush 6, 2) := by decide +kernel
theorem dX5_setRun_9 : decode cX5_setRun 9 = .ok (.invokestatic 38, 3) := by decide +kernel
theorem dX5_setRun_12 : decode cX5_setRun 12 = .ok (.ifCond .ne 9, 3) := by decide +kernel
theorem dX5_setRun_15 : decode cX5_setRun 15 = .ok (.aload_n 0, 1) := by decide +kernel
theorem dX5_setRun_16 : decode cX5_setRun 16 = .ok (.iconst 1, 1) := by decide +kernel
theorem dX5_setRun_17 : decode cX5_setRun 17 = .ok (.invokevirtual 45, 3) := by decide +kernel
theorem dX5_setRun_20 : decode cX5_setRun 20 = .ok (.ireturn, 1) := by decide +kernel
theorem dX5_setRun_21 : decode cX5_setRun 21 = .ok (.iload_n 2, 1) := by decide +kernel
theorem dX5_setRun_22 : decode cX5_setRun 22 = .ok (.iconst 0, 1) := by decide +kernel
theorem dX5_setRun_23 : decode cX5_setRun 23 = .ok (.bipush 99, 2) := by decide +kernel
theorem dX5_setRun_25 : decode cX5_setRun 25 = .ok (.invokestatic 38, 3) := by decide +kernel
theorem dX5_setRun_28 : decode cX5_setRun 28 = .ok (.ifCond .ne 9, 3) := by decide +kernel
theorem dX5_setRun_31 : decode cX5_setRun 31 = .ok (.aload_n 0, 1) := by decide +kernel
theorem dX5_setRun_32 : decode cX5_setRun 32 = .ok (.iconst 2, 1) := by decide +kernel
theorem dX5_setRun_33 : decode cX5_setRun 33 = .ok (.invokevirtual 45, 3) := by decide +kernel
theorem dX5_setRun_36 : decode cX5_setRun 36 = .ok (.ireturn, 1) := by decide +kernel
theorem dX5_setRun_37 : decode cX5_setRun 37 = .ok (.aload_n 0, 1) := by decide +kernel
theorem dX5_setRun_38 : decode cX5_setRun 38 = .ok (.getfield 7, 3) := by decide +kernel
theorem dX5_setRun_41 : decode cX5_setRun 41 = .ok (.iload_n 1, 1) := by decide +kernel
theorem dX5_setRun_42 : decode cX5_setRun 42 = .ok (.iaload, 1) := by decide +kernel
theorem dX5_setRun_43 : decode cX5_setRun 43 = .ok (.istore_n 3, 1) := by decide +kernel
theorem dX5_setRun_44 : decode cX5_setRun 44 = .ok (.aload_n 0, 1) := by decide +kernel
theorem dX5_setRun_45 : decode cX5_setRun 45 = .ok (.getfield 7, 3) := by decide +kernel
theorem dX5_setRun_48 : decode cX5_setRun 48 = .ok (.iload_n 1, 1) := by decide +kernel
theorem dX5_setRun_49 : decode cX5_setRun 49 = .ok (.iload_n 2, 1) := by decide +kernel
theorem dX5_setRun_50 : decode cX5_setRun 50 = .ok (.iastore, 1) := by decide +kernel
theorem dX5_setRun_51 : decode cX5_setRun 51 = .ok (.iload_n 3, 1) := by decide +kernel
theorem dX5_setRun_52 : decode cX5_setRun 52 = .ok (.ireturn, 1) := by decide +kernel
set_option maxRecDepth 20000 in
theorem ggX5_barge_X5_isIn : GoodIn wsX5_barge wsX5_isIn := goodIn_r _ [6] (by decide +kernel) (by decide +kernel)
set_option maxRecDepth 20000 in
theorem gX5_barge_X5_isIn : GoodIn wsX5_barge (va_wsS RX5 38 yX5_isIn wsX5_isIn) := goodIn_app (goodIn_of _ (by decide +kernel)) ggX5_barge_X5_isIn
set_option maxRecDepth 20000 in
theorem ggX5_barge_X5_no : GoodIn wsX5_barge wsX5_no := goodIn_r _ [10, 1, 11, 12, 13, 14, 15, 16, 17] (by decide +kernel) (by decide +kernel)
set_option maxRecDepth 20000 in
theorem gX5_barge_X5_no : GoodIn wsX5_barge (wsV RX5 45 RX5 yX5_no wsX5_no) := goodIn_app (goodIn_of _ (by decide +kernel)) ggX5_barge_X5_no
theorem dX5_barge_0 : decode cX5_barge 0 = .ok (.aload_n 0, 1) := by decide +kernel
theorem dX5_barge_1 : decode cX5_barge 1 = .ok (.iconst 0, 1) := by decide +kernel
theorem dX5_barge_2 : decode cX5_barge 2 = .ok (.putfield 31, 3) := by decide +kernel
theorem dX5_barge_5 : decode cX5_barge 5 = .ok (.iload_n 1, 1) := by decide +kernel
theorem dX5_barge_6 : decode cX5_barge 6 = .ok (.iconst 1, 1) := by decide +kernel
theorem dX5_barge_7 : decode cX5_barge 7 = .ok (.bipush 20, 2) := by decide +kernel
theorem dX5_barge_9 : decode cX5_barge 9 = .ok (.invokestatic 38, 3) := by decide +kernel
theorem dX5_barge_12 : decode cX5_barge 12 = .ok (.ifCond .ne 9, 3) := by decide +kernel
theorem dX5_barge_15 : decode cX5_barge 15 = .ok (.aload_n 0, 1) := by decide +kernel
theorem dX5_barge_16 : decode cX5_barge 16 = .ok (.iconst 1, 1) := by decide +kernel
theorem dX5_barge_17 : decode cX5_barge 17 = .ok (.invokevirtual 45, 3) := by decide +kernel
theorem dX5_barge_20 : decode cX5_barge 20 = .ok (.ireturn, 1) := by decide +kernel
theorem dX5_barge_21 : decode cX5_barge 21 = .ok (.aload_n 0, 1) := by decide +kernel
theorem dX5_barge_22 : decode cX5_barge 22 = .ok (.getfield 24, 3) := by decide +kernel
theorem dX5_barge_25 : decode cX5_barge 25 = .ok (.getfield 42, 3) := by decide +kernel
theorem dX5_barge_28 : decode cX5_barge 28 = .ok (.iconst 5, 1) := by decide +kernel
theorem dX5_barge_29 : decode cX5_barge 29 = .ok (.if_icmp .ne 9, 3) := by decide +kernel
theorem dX5_barge_32 : decode cX5_barge 32 = .ok (.aload_n 0, 1) := by decide +kernel
theorem dX5_barge_33 : decode cX5_barge 33 = .ok (.iconst 2, 1) := by decide +kernel
theorem dX5_barge_34 : decode cX5_barge 34 = .ok (.invokevirtual 45, 3) := by decide +kernel
theorem dX5_barge_37 : decode cX5_barge 37 = .ok (.ireturn, 1) := by decide +kernel
theorem dX5_barge_38 : decode cX5_barge 38 = .ok (.aload_n 0, 1) := by decide +kernel
theorem dX5_barge_39 : decode cX5_barge 39 = .ok (.getfield 24, 3) := by decide +kernel
theorem dX5_barge_42 : decode cX5_barge 42 = .ok (.getfield 75, 3) := by decide +kernel
theorem dX5_barge_45 : decode cX5_barge 45 = .ok (.aload_n 0, 1) := by decide +kernel
theorem dX5_barge_46 : decode cX5_barge 46 = .ok (.getfield 24, 3) := by decide +kernel
theorem dX5_barge_49 : decode cX5_barge 49 = .ok (.getfield 42, 3) := by decide +kernel
theorem dX5_barge_52 : decode cX5_barge 52 = .ok (.iload_n 1, 1) := by decide +kernel
theorem dX5_barge_53 : decode cX5_barge 53 = .ok (.iastore, 1) := by decide +kernel
theorem dX5_barge_54 : decode cX5_barge 54 = .ok (.aload_n 0, 1) := by decide +kernel
theorem dX5_barge_55 : decode cX5_barge 55 = .ok (.getfield 24, 3) := by decide +kernel
theorem dX5_barge_58 : decode cX5_barge 58 = .ok (.getfield 78, 3) := by decide +kernel
theorem dX5_barge_61 : decode cX5_barge 61 = .ok (.aload_n 0, 1) := by decide +kernel
theorem dX5_barge_62 : decode cX5_barge 62 = .ok (.getfield 24, 3) := by decide +kernel
theorem dX5_barge_65 : decode cX5_barge 65 = .ok (.getfield 42, 3) := by decide +kernel
theorem dX5_barge_68 : decode cX5_barge 68 = .ok (.iconst (-1), 1) := by decide +kernel
theorem dX5_barge_69 : decode cX5_barge 69 = .ok (.iastore, 1) := by decide +kernel
theorem dX5_barge_70 : decode cX5_barge 70 = .ok (.aload_n 0, 1) := by decide +kernel
theorem dX5_barge_71 : decode cX5_barge 71 = .ok (.getfield 24, 3) := by decide +kernel
theorem dX5_barge_74 : decode cX5_barge 74 = .ok (.getfield 81, 3) := by decide +kernel
theorem dX5_barge_77 : decode cX5_barge 77 = .ok (.aload_n 0, 1) := by decide +kernel
theorem dX5_barge_78 : decode cX5_barge 78 = .ok (.getfield 24, 3) := by decide +kernel
theorem dX5_barge_81 : decode cX5_barge 81 = .ok (.getfield 42, 3) := by decide +kernel
theorem dX5_barge_84 : decode cX5_barge 84 = .ok (.iconst 0, 1) := by decide +kernel
theorem dX5_barge_85 : decode cX5_barge 85 = .ok (.iastore, 1) := by decide +kernel
theorem dX5_barge_86 : decode cX5_barge 86 = .ok (.aload_n 0, 1) := by decide +kernel
theorem dX5_barge_87 : decode cX5_barge 87 = .ok (.getfield 24, 3) := by decide +kernel
theorem dX5_barge_90 : decode cX5_barge 90 = .ok (.dup, 1) := by decide +kernel
theorem dX5_barge_91 : decode cX5_barge 91 = .ok (.getfield 42, 3) := by decide +kernel
theorem dX5_barge_94 : decode cX5_barge 94 = .ok (.iconst 1, 1) := by decide +kernel
theorem dX5_barge_95 : decode cX5_barge 95 = .ok (.iadd, 1) := by decide +kernel
theorem dX5_barge_96 : decode cX5_barge 96 = .ok (.putfield 42, 3) := by decide +kernel
theorem dX5_barge_99 : decode cX5_barge 99 = .ok (.aload_n 0, 1) := by decide +kernel
theorem dX5_barge_100 : decode cX5_barge 100 = .ok (.getfield 24, 3) := by decide +kernel
theorem dX5_barge_103 : decode cX5_barge 103 = .ok (.getfield 42, 3) := by decide +kernel
theorem dX5_barge_106 : decode cX5_barge 106 = .ok (.iconst 1, 1) := by decide +kernel
theorem dX5_barge_107 : decode cX5_barge 107 = .ok (.isub, 1) := by decide +kernel
theorem dX5_barge_108 : decode cX5_barge 108 = .ok (.ireturn, 1) := by decide +kernel
theorem dX5_weirTold_0 : decode cX5_weirTold 0 = .ok (.bipush 8, 2) := by decide +kernel
theorem dX5_weirTold_2 : decode cX5_weirTold 2 = .ok (.newarray .int, 2) := by decide +kernel
theorem dX5_weirTold_4 : decode cX5_weirTold 4 = .ok (.dup, 1) := by decide +kernel
theorem dX5_weirTold_5 : decode cX5_weirTold 5 = .ok (.iconst 0, 1) := by decide +kernel
theorem dX5_weirTold_6 : decode cX5_weirTold 6 = .ok (.aload_n 0, 1) := by decide +kernel
theorem dX5_weirTold_7 : decode cX5_weirTold 7 = .ok (.getfield 13, 3) := by decide +kernel
theorem dX5_weirTold_10 : decode cX5_weirTold 10 = .ok (.iload_n 1, 1) := by decide +kernel
theorem dX5_weirTold_11 : decode cX5_weirTold 11 = .ok (.iaload, 1) := by decide +kernel
theorem dX5_weirTold_12 : decode cX5_weirTold 12 = .ok (.iastore, 1) := by decide +kernel
theorem dX5_weirTold_13 : decode cX5_weirTold 13 = .ok (.dup, 1) := by decide +kernel
theorem dX5_weirTold_14 : decode cX5_weirTold 14 = .ok (.iconst 1, 1) := by decide +kernel
theorem dX5_weirTold_15 : decode cX5_weirTold 15 = .ok (.aload_n 0, 1) := by decide +kernel
theorem dX5_weirTold_16 : decode cX5_weirTold 16 = .ok (.getfield 24, 3) := by decide +kernel
theorem dX5_weirTold_19 : decode cX5_weirTold 19 = .ok (.getfield 49, 3) := by decide +kernel
theorem dX5_weirTold_22 : decode cX5_weirTold 22 = .ok (.iload_n 1, 1) := by decide +kernel
theorem dX5_weirTold_23 : decode cX5_weirTold 23 = .ok (.iaload, 1) := by decide +kernel
theorem dX5_weirTold_24 : decode cX5_weirTold 24 = .ok (.iastore, 1) := by decide +kernel
theorem dX5_weirTold_25 : decode cX5_weirTold 25 = .ok (.dup, 1) := by decide +kernel
theorem dX5_weirTold_26 : decode cX5_weirTold 26 = .ok (.iconst 2, 1) := by decide +kernel
theorem dX5_weirTold_27 : decode cX5_weirTold 27 = .ok (.aload_n 0, 1) := by decide +kernel
theorem dX5_weirTold_28 : decode cX5_weirTold 28 = .ok (.getfield 24, 3) := by decide +kernel
theorem dX5_weirTold_31 : decode cX5_weirTold 31 = .ok (.getfield 52, 3) := by decide +kernel
theorem dX5_weirTold_34 : decode cX5_weirTold 34 = .ok (.iload_n 1, 1) := by decide +kernel
theorem dX5_weirTold_35 : decode cX5_weirTold 35 = .ok (.iaload, 1) := by decide +kernel
theorem dX5_weirTold_36 : decode cX5_weirTold 36 = .ok (.iastore, 1) := by decide +kernel
theorem dX5_weirTold_37 : decode cX5_weirTold 37 = .ok (.dup, 1) := by decide +kernel
theorem dX5_weirTold_38 : decode cX5_weirTold 38 = .ok (.iconst 3, 1) := by decide +kernel
theorem dX5_weirTold_39 : decode cX5_weirTold 39 = .ok (.aload_n 0, 1) := by decide +kernel
theorem dX5_weirTold_40 : decode cX5_weirTold 40 = .ok (.getfield 16, 3) := by decide +kernel
theorem dX5_weirTold_43 : decode cX5_weirTold 43 = .ok (.iload_n 1, 1) := by decide +kernel
theorem dX5_weirTold_44 : decode cX5_weirTold 44 = .ok (.iaload, 1) := by decide +kernel
theorem dX5_weirTold_45 : decode cX5_weirTold 45 = .ok (.iastore, 1) := by decide +kernel
theorem dX5_weirTold_46 : decode cX5_weirTold 46 = .ok (.dup, 1) := by decide +kernel
theorem dX5_weirTold_47 : decode cX5_weirTold 47 = .ok (.iconst 4, 1) := by decide +kernel
theorem dX5_weirTold_48 : decode cX5_weirTold 48 = .ok (.aload_n 0, 1) := by decide +kernel
theorem dX5_weirTold_49 : decode cX5_weirTold 49 = .ok (.getfield 24, 3) := by decide +kernel
theorem dX5_weirTold_52 : decode cX5_weirTold 52 = .ok (.getfield 55, 3) := by decide +kernel
theorem dX5_weirTold_55 : decode cX5_weirTold 55 = .ok (.iload_n 1, 1) := by decide +kernel
theorem dX5_weirTold_56 : decode cX5_weirTold 56 = .ok (.iaload, 1) := by decide +kernel
theorem dX5_weirTold_57 : decode cX5_weirTold 57 = .ok (.iastore, 1) := by decide +kernel
theorem dX5_weirTold_58 : decode cX5_weirTold 58 = .ok (.dup, 1) := by decide +kernel
theorem dX5_weirTold_59 : decode cX5_weirTold 59 = .ok (.iconst 5, 1) := by decide +kernel
theorem dX5_weirTold_60 : decode cX5_weirTold 60 = .ok (.aload_n 0, 1) := by decide +kernel
theorem dX5_weirTold_61 : decode cX5_weirTold 61 = .ok (.getfield 24, 3) := by decide +kernel
theorem dX5_weirTold_64 : decode cX5_weirTold 64 = .ok (.getfield 68, 3) := by decide +kernel
theorem dX5_weirTold_67 : decode cX5_weirTold 67 = .ok (.iload_n 1, 1) := by decide +kernel
theorem dX5_weirTold_68 : decode cX5_weirTold 68 = .ok (.iaload, 1) := by decide +kernel
theorem dX5_weirTold_69 : decode cX5_weirTold 69 = .ok (.iastore, 1) := by decide +kernel
theorem dX5_weirTold_70 : decode cX5_weirTold 70 = .ok (.dup, 1) := by decide +kernel
theorem dX5_weirTold_71 : decode cX5_weirTold 71 = .ok (.bipush 6, 2) := by decide +kernel
theorem dX5_weirTold_73 : decode cX5_weirTold 73 = .ok (.aload_n 0, 1) := by decide +kernel
theorem dX5_weirTold_74 : decode cX5_weirTold 74 = .ok (.getfield 24, 3) := by decide +kernel
theorem dX5_weirTold_77 : decode cX5_weirTold 77 = .ok (.getfield 65, 3) := by decide +kernel
theorem dX5_weirTold_80 : decode cX5_weirTold 80 = .ok (.iload_n 1, 1) := by decide +kernel
theorem dX5_weirTold_81 : decode cX5_weirTold 81 = .ok (.iaload, 1) := by decide +kernel
theorem dX5_weirTold_82 : decode cX5_weirTold 82 = .ok (.iastore, 1) := by decide +kernel
theorem dX5_weirTold_83 : decode cX5_weirTold 83 = .ok (.dup, 1) := by decide +kernel
theorem dX5_weirTold_84 : decode cX5_weirTold 84 = .ok (.bipush 7, 2) := by decide +kernel
theorem dX5_weirTold_86 : decode cX5_weirTold 86 = .ok (.aload_n 0, 1) := by decide +kernel
theorem dX5_weirTold_87 : decode cX5_weirTold 87 = .ok (.getfield 24, 3) := by decide +kernel
theorem dX5_weirTold_90 : decode cX5_weirTold 90 = .ok (.getfield 84, 3) := by decide +kernel
theorem dX5_weirTold_93 : decode cX5_weirTold 93 = .ok (.iload_n 1, 1) := by decide +kernel
theorem dX5_weirTold_94 : decode cX5_weirTold 94 = .ok (.iaload, 1) := by decide +kernel
theorem dX5_weirTold_95 : decode cX5_weirTold 95 = .ok (.iastore, 1) := by decide +kernel
theorem dX5_weirTold_96 : decode cX5_weirTold 96 = .ok (.astore_n 3, 1) := by decide +kernel
theorem dX5_weirTold_97 : decode cX5_weirTold 97 = .ok (.aload_n 3, 1) := by decide +kernel
theorem dX5_weirTold_98 : decode cX5_weirTold 98 = .ok (.iload_n 2, 1) := by decide +kernel
theorem dX5_weirTold_99 : decode cX5_weirTold 99 = .ok (.iaload, 1) := by decide +kernel
theorem dX5_weirTold_100 : decode cX5_weirTold 100 = .ok (.ireturn, 1) := by decide +kernel
set_option maxRecDepth 20000 in
theorem ggX5_about_X5_isWeir : GoodIn wsX5_about wsX5_isWeir := goodIn_r _ [6, 7, 8, 9, 5, 10, 23, 24, 25, 26, 27, 28, 29] (by decide +kernel) (by decide +kernel)
set_option maxRecDepth 20000 in
theorem gX5_about_X5_isWeir : GoodIn wsX5_about (wsV RX5 58 RX5 yX5_isWeir wsX5_isWeir) := goodIn_app (goodIn_of _ (by decide +kernel)) ggX5_about_X5_isWeir
set_option maxRecDepth 20000 in
theorem ggX5_about_X5_isIn : GoodIn wsX5_about wsX5_isIn := goodIn_r _ [10] (by decide +kernel) (by decide +kernel)
set_option maxRecDepth 20000 in
theorem gX5_about_X5_isIn : GoodIn wsX5_about (va_wsS RX5 38 yX5_isIn wsX5_isIn) := goodIn_app (goodIn_of _ (by decide +kernel)) ggX5_about_X5_isIn
set_option maxRecDepth 20000 in
theorem ggX5_about_X5_weirTold : GoodIn wsX5_about wsX5_weirTold := goodIn_r _ [14, 15, 16, 17, 18, 23, 24, 25, 26, 27, 28, 29, 30, 31, 32, 33, 34, 35, 36, 37, 38, 39, 40, 41, 42, 43, 44, 45] (by decide +kernel) (by decide +kernel)
set_option maxRecDepth 20000 in
theorem gX5_about_X5_weirTold : GoodIn wsX5_about (wsV RX5 87 RX5 yX5_weirTold wsX5_weirTold) := goodIn_app (goodIn_of _ (by decide +kernel)) ggX5_about_X5_weirTold
set_option maxRecDepth 20000 in
theorem ggX5_about_X5_no : GoodIn wsX5_about wsX5_no := goodIn_r _ [22, 1, 23, 24, 25, 26, 27, 28, 29] (by decide +kernel) (by decide +kernel)
set_option maxRecDepth 20000 in
theorem gX5_about_X5_no : GoodIn wsX5_about (wsV RX5 45 RX5 yX5_no wsX5_no) := goodIn_app (goodIn_of _ (by decide +kernel)) ggX5_about_X5_no
theorem dX5_about_0 : decode cX5_about 0 = .ok (.aload_n 0, 1) := by decide +kernel
theorem dX5_about_1 : decode cX5_about 1 = .ok (.iconst 0, 1) := by decide +kernel
theorem dX5_about_2 : decode cX5_about 2 = .ok (.putfield 31, 3) := by decide +kernel
theorem dX5_about_5 : decode cX5_about 5 = .ok (.aload_n 0, 1) := by decide +kernel
theorem dX5_about_6 : decode cX5_about 6 = .ok (.iload_n 1, 1) := by decide +kernel
theorem dX5_about_7 : decode cX5_about 7 = .ok (.invokevirtual 58, 3) := by decide +kernel
theorem dX5_about_10 : decode cX5_about 10 = .ok (.ifCond .eq 22, 3) := by decide +kernel
theorem dX5_about_13 : decode cX5_about 13 = .ok (.iload_n 2, 1) := by decide +kernel
theorem dX5_about_14 : decode cX5_about 14 = .ok (.iconst 0, 1) := by decide +kernel
theorem dX5_about_15 : decode cX5_about 15 = .ok (.bipush 7, 2) := by decide +kernel
theorem dX5_about_17 : decode cX5_about 17 = .ok (.invokestatic 38, 3) := by decide +kernel
theorem dX5_about_20 : decode cX5_about 20 = .ok (.ifCond .eq 12, 3) := by decide +kernel
theorem dX5_about_23 : decode cX5_about 23 = .ok (.aload_n 0, 1) := by decide +kernel
theorem dX5_about_24 : decode cX5_about 24 = .ok (.iload_n 1, 1) := by decide +kernel
theorem dX5_about_25 : decode cX5_about 25 = .ok (.iload_n 2, 1) := by decide +kernel
theorem dX5_about_26 : decode cX5_about 26 = .ok (.invokevirtual 87, 3) := by decide +kernel
theorem dX5_about_29 : decode cX5_about 29 = .ok (.goto 8, 3) := by decide +kernel
theorem dX5_about_32 : decode cX5_about 32 = .ok (.aload_n 0, 1) := by decide +kernel
theorem dX5_about_33 : decode cX5_about 33 = .ok (.iconst 1, 1) := by decide +kernel
theorem dX5_about_34 : decode cX5_about 34 = .ok (.invokevirtual 45, 3) := by decide +kernel
theorem dX5_about_37 : decode cX5_about 37 = .ok (.ireturn, 1) := by decide +kernel
set_option maxRecDepth 20000 in
theorem ggX5_nextFor_X4_isInWay : GoodIn wsX5_nextFor wsX4_isInWay := goodIn_r _ [8, 9, 10, 11, 12, 13, 7, 14, 15, 23, 24, 25, 26, 27, 28, 29, 30, 31, 32, 33, 34, 35, 36, 37, 38] (by decide +kernel) (by decide +kernel)
set_option maxRecDepth 20000 in
theorem gX5_nextFor_X4_isInWay : GoodIn wsX5_nextFor (wsV RX5 91 RX4 yX4_isInWay wsX4_isInWay) := goodIn_app (goodIn_of _ (by decide +kernel)) ggX5_nextFor_X4_isInWay
theorem dX5_nextFor_0 : decode cX5_nextFor 0 = .ok (.aload_n 0, 1) := by decide +kernel
theorem dX5_nextFor_1 : decode cX5_nextFor 1 = .ok (.getfield 24, 3) := by decide +kernel
theorem dX5_nextFor_4 : decode cX5_nextFor 4 = .ok (.getfield 78, 3) := by decide +kernel
theorem dX5_nextFor_7 : decode cX5_nextFor 7 = .ok (.iload_n 1, 1) := by decide +kernel
theorem dX5_nextFor_8 : decode cX5_nextFor 8 = .ok (.iaload, 1) := by decide +kernel
theorem dX5_nextFor_9 : decode cX5_nextFor 9 = .ok (.iconst 1, 1) := by decide +kernel
theorem dX5_nextFor_10 : decode cX5_nextFor 10 = .ok (.iadd, 1) := by decide +kernel
theorem dX5_nextFor_11 : decode cX5_nextFor 11 = .ok (.istore_n 2, 1) := by decide +kernel
theorem dX5_nextFor_12 : decode cX5_nextFor 12 = .ok (.iload_n 2, 1) := by decide +kernel
theorem dX5_nextFor_13 : decode cX5_nextFor 13 = .ok (.bipush 40, 2) := by decide +kernel
theorem dX5_nextFor_15 : decode cX5_nextFor 15 = .ok (.if_icmp .ge 57, 3) := by decide +kernel
theorem dX5_nextFor_18 : decode cX5_nextFor 18 = .ok (.iconst 0, 1) := by decide +kernel
theorem dX5_nextFor_19 : decode cX5_nextFor 19 = .ok (.istore_n 3, 1) := by decide +kernel
theorem dX5_nextFor_20 : decode cX5_nextFor 20 = .ok (.iload_n 3, 1) := by decide +kernel
theorem dX5_nextFor_21 : decode cX5_nextFor 21 = .ok (.aload_n 0, 1) := by decide +kernel
theorem dX5_nextFor_22 : decode cX5_nextFor 22 = .ok (.getfield 35, 3) := by decide +kernel
theorem dX5_nextFor_25 : decode cX5_nextFor 25 = .ok (.if_icmp .ge 41, 3) := by decide +kernel
theorem dX5_nextFor_28 : decode cX5_nextFor 28 = .ok (.aload_n 0, 1) := by decide +kernel
theorem dX5_nextFor_29 : decode cX5_nextFor 29 = .ok (.getfield 13, 3) := by decide +kernel
theorem dX5_nextFor_32 : decode cX5_nextFor 32 = .ok (.iload_n 3, 1) := by decide +kernel
theorem dX5_nextFor_33 : decode cX5_nextFor 33 = .ok (.iaload, 1) := by decide +kernel
theorem dX5_nextFor_34 : decode cX5_nextFor 34 = .ok (.iload_n 2, 1) := by decide +kernel
theorem dX5_nextFor_35 : decode cX5_nextFor 35 = .ok (.if_icmp .ne 25, 3) := by decide +kernel
theorem dX5_nextFor_38 : decode cX5_nextFor 38 = .ok (.aload_n 0, 1) := by decide +kernel
theorem dX5_nextFor_39 : decode cX5_nextFor 39 = .ok (.getfield 24, 3) := by decide +kernel
theorem dX5_nextFor_42 : decode cX5_nextFor 42 = .ok (.iload_n 3, 1) := by decide +kernel
theorem dX5_nextFor_43 : decode cX5_nextFor 43 = .ok (.aload_n 0, 1) := by decide +kernel
theorem dX5_nextFor_44 : decode cX5_nextFor 44 = .ok (.getfield 24, 3) := by decide +kernel
theorem dX5_nextFor_47 : decode cX5_nextFor 47 = .ok (.getfield 75, 3) := by decide +kernel
theorem dX5_nextFor_50 : decode cX5_nextFor 50 = .ok (.iload_n 1, 1) := by decide +kernel
theorem dX5_nextFor_51 : decode cX5_nextFor 51 = .ok (.iaload, 1) := by decide +kernel
theorem dX5_nextFor_52 : decode cX5_nextFor 52 = .ok (.invokevirtual 91, 3) := by decide +kernel
theorem dX5_nextFor_55 : decode cX5_nextFor 55 = .ok (.ifCond .eq 5, 3) := by decide +kernel
theorem dX5_nextFor_58 : decode cX5_nextFor 58 = .ok (.iload_n 3, 1) := by decide +kernel
theorem dX5_nextFor_59 : decode cX5_nextFor 59 = .ok (.ireturn, 1) := by decide +kernel
theorem dX5_nextFor_60 : decode cX5_nextFor 60 = .ok (.iinc 3 1, 3) := by decide +kernel
theorem dX5_nextFor_63 : decode cX5_nextFor 63 = .ok (.goto (-43), 3) := by decide +kernel
theorem dX5_nextFor_66 : decode cX5_nextFor 66 = .ok (.iinc 2 1, 3) := by decide +kernel
theorem dX5_nextFor_69 : decode cX5_nextFor 69 = .ok (.goto (-57), 3) := by decide +kernel
theorem dX5_nextFor_72 : decode cX5_nextFor 72 = .ok (.iconst (-1), 1) := by decide +kernel
theorem dX5_nextFor_73 : decode cX5_nextFor 73 = .ok (.ireturn, 1) := by decide +kernel
set_option maxRecDepth 20000 in
theorem ggX5_bargeTold_X5_nextFor : GoodIn wsX5_bargeTold wsX5_nextFor := goodIn_r _ [6, 1, 7, 8, 9, 10, 11, 12, 13, 14, 15, 16, 17, 18, 19, 20, 21, 22, 23, 24, 25, 26, 27, 28, 29, 30, 31, 32, 33, 34, 35, 36, 37, 38, 39, 40, 41, 42, 43] (by decide +kernel) (by decide +kernel)
set_option maxRecDepth 20000 in
theorem gX5_bargeTold_X5_nextFor : GoodIn wsX5_bargeTold (wsV RX5 95 RX5 yX5_nextFor wsX5_nextFor) := goodIn_app (goodIn_of _ (by decide +kernel)) ggX5_bargeTold_X5_nextFor
theorem dX5_bargeTold_0 : decode cX5_bargeTold 0 = .ok (.iload_n 2, 1) := by decide +kernel
theorem dX5_bargeTold_1 : decode cX5_bargeTold 1 = .ok (.ifCond .ne 15, 3) := by decide +kernel
theorem dX5_bargeTold_4 : decode cX5_bargeTold 4 = .ok (.aload_n 0, 1) := by decide +kernel
theorem dX5_bargeTold_5 : decode cX5_bargeTold 5 = .ok (.getfield 24, 3) := by decide +kernel
theorem dX5_bargeTold_8 : decode cX5_bargeTold 8 = .ok (.getfield 75, 3) := by decide +kernel
theorem dX5_bargeTold_11 : decode cX5_bargeTold 11 = .ok (.iload_n 1, 1) := by decide +kernel
theorem dX5_bargeTold_12 : decode cX5_bargeTold 12 = .ok (.iaload, 1) := by decide +kernel
theorem dX5_bargeTold_13 : decode cX5_bargeTold 13 = .ok (.goto 42, 3) := by decide +kernel
theorem dX5_bargeTold_16 : decode cX5_bargeTold 16 = .ok (.iload_n 2, 1) := by decide +kernel
theorem dX5_bargeTold_17 : decode cX5_bargeTold 17 = .ok (.iconst 1, 1) := by decide +kernel
theorem dX5_bargeTold_18 : decode cX5_bargeTold 18 = .ok (.if_icmp .ne 15, 3) := by decide +kernel
theorem dX5_bargeTold_21 : decode cX5_bargeTold 21 = .ok (.aload_n 0, 1) := by decide +kernel
theorem dX5_bargeTold_22 : decode cX5_bargeTold 22 = .ok (.getfield 24, 3) := by decide +kernel
theorem dX5_bargeTold_25 : decode cX5_bargeTold 25 = .ok (.getfield 78, 3) := by decide +kernel
theorem dX5_bargeTold_28 : decode cX5_bargeTold 28 = .ok (.iload_n 1, 1) := by decide +kernel
theorem dX5_bargeTold_29 : decode cX5_bargeTold 29 = .ok (.iaload, 1) := by decide +kernel
theorem dX5_bargeTold_30 : decode cX5_bargeTold 30 = .ok (.goto 25, 3) := by decide +kernel
theorem dX5_bargeTold_33 : decode cX5_bargeTold 33 = .ok (.iload_n 2, 1) := by decide +kernel
theorem dX5_bargeTold_34 : decode cX5_bargeTold 34 = .ok (.iconst 2, 1) := by decide +kernel
theorem dX5_bargeTold_35 : decode cX5_bargeTold 35 = .ok (.if_icmp .ne 15, 3) := by decide +kernel
theorem dX5_bargeTold_38 : decode cX5_bargeTold 38 = .ok (.aload_n 0, 1) := by decide +kernel
theorem dX5_bargeTold_39 : decode cX5_bargeTold 39 = .ok (.getfield 24, 3) := by decide +kernel
theorem dX5_bargeTold_42 : decode cX5_bargeTold 42 = .ok (.getfield 81, 3) := by decide +kernel
theorem dX5_bargeTold_45 : decode cX5_bargeTold 45 = .ok (.iload_n 1, 1) := by decide +kernel
theorem dX5_bargeTold_46 : decode cX5_bargeTold 46 = .ok (.iaload, 1) := by decide +kernel
theorem dX5_bargeTold_47 : decode cX5_bargeTold 47 = .ok (.goto 8, 3) := by decide +kernel
theorem dX5_bargeTold_50 : decode cX5_bargeTold 50 = .ok (.aload_n 0, 1) := by decide +kernel
theorem dX5_bargeTold_51 : decode cX5_bargeTold 51 = .ok (.iload_n 1, 1) := by decide +kernel
theorem dX5_bargeTold_52 : decode cX5_bargeTold 52 = .ok (.invokevirtual 95, 3) := by decide +kernel
theorem dX5_bargeTold_55 : decode cX5_bargeTold 55 = .ok (.ireturn, 1) := by decide +kernel
set_option maxRecDepth 20000 in
theorem ggX5_told_X5_isBarge : GoodIn wsX5_told wsX5_isBarge := goodIn_r _ [6, 7, 8, 9, 5, 10, 37, 38, 39, 40, 41, 42, 43, 44, 45, 46, 47, 48, 49, 50, 51, 52, 53, 54, 55, 56, 57, 58, 59] (by decide +kernel) (by decide +kernel)
set_option maxRecDepth 20000 in
theorem gX5_told_X5_isBarge : GoodIn wsX5_told (wsV RX5 98 RX5 yX5_isBarge wsX5_isBarge) := goodIn_app (goodIn_of _ (by decide +kernel)) ggX5_told_X5_isBarge
set_option maxRecDepth 20000 in
theorem ggX5_told_X5_isIn : GoodIn wsX5_told wsX5_isIn := goodIn_r _ [10] (by decide +kernel) (by decide +kernel)
set_option maxRecDepth 20000 in
theorem gX5_told_X5_isIn : GoodIn wsX5_told (va_wsS RX5 38 yX5_isIn wsX5_isIn) := goodIn_app (goodIn_of _ (by decide +kernel)) ggX5_told_X5_isIn
set_option maxRecDepth 20000 in
theorem ggX5_told_X5_bargeTold : GoodIn wsX5_told wsX5_bargeTold := goodIn_r _ [14, 7, 15, 16, 17, 5, 18, 19, 20, 21, 22, 23, 24, 25, 26, 27, 28, 29, 30, 31, 32, 37, 38, 39, 40, 41, 42, 43, 44, 45, 46, 47, 48, 49, 50, 51, 52, 53, 54, 55, 56, 57, 58, 59] (by decide +kernel) (by decide +kernel)
set_option maxRecDepth 20000 in
theorem gX5_told_X5_bargeTold : GoodIn wsX5_told (wsV RX5 101 RX5 yX5_bargeTold wsX5_bargeTold) := goodIn_app (goodIn_of _ (by decide +kernel)) ggX5_told_X5_bargeTold
set_option maxRecDepth 20000 in
theorem ggX5_told_X5_no : GoodIn wsX5_told wsX5_no := goodIn_r _ [36, 1, 37, 38, 39, 40, 41, 42, 43] (by decide +kernel) (by decide +kernel)
set_option maxRecDepth 20000 in
theorem gX5_told_X5_no : GoodIn wsX5_told (wsV RX5 45 RX5 yX5_no wsX5_no) := goodIn_app (goodIn_of _ (by decide +kernel)) ggX5_told_X5_no
theorem dX5_told_0 : decode cX5_told 0 = .ok (.aload_n 0, 1) := by decide +kernel
theorem dX5_told_1 : decode cX5_told 1 = .ok (.iconst 0, 1) := by decide +kernel
theorem dX5_told_2 : decode cX5_told 2 = .ok (.putfield 31, 3) := by decide +kernel
theorem dX5_told_5 : decode cX5_told 5 = .ok (.aload_n 0, 1) := by decide +kernel
theorem dX5_told_6 : decode cX5_told 6 = .ok (.iload_n 1, 1) := by decide +kernel
theorem dX5_told_7 : decode cX5_told 7 = .ok (.invokevirtual 98, 3) := by decide +kernel
theorem dX5_told_10 : decode cX5_told 10 = .ok (.ifCond .eq 21, 3) := by decide +kernel
theorem dX5_told_13 : decode cX5_told 13 = .ok (.iload_n 2, 1) := by decide +kernel
theorem dX5_told_14 : decode cX5_told 14 = .ok (.iconst 0, 1) := by decide +kernel
theorem dX5_told_15 : decode cX5_told 15 = .ok (.iconst 3, 1) := by decide +kernel
theorem dX5_told_16 : decode cX5_told 16 = .ok (.invokestatic 38, 3) := by decide +kernel
theorem dX5_told_19 : decode cX5_told 19 = .ok (.ifCond .eq 12, 3) := by decide +kernel
theorem dX5_told_22 : decode cX5_told 22 = .ok (.aload_n 0, 1) := by decide +kernel
theorem dX5_told_23 : decode cX5_told 23 = .ok (.iload_n 1, 1) := by decide +kernel
theorem dX5_told_24 : decode cX5_told 24 = .ok (.iload_n 2, 1) := by decide +kernel
theorem dX5_told_25 : decode cX5_told 25 = .ok (.invokevirtual 101, 3) := by decide +kernel
theorem dX5_told_28 : decode cX5_told 28 = .ok (.goto 8, 3) := by decide +kernel
theorem dX5_told_31 : decode cX5_told 31 = .ok (.aload_n 0, 1) := by decide +kernel
theorem dX5_told_32 : decode cX5_told 32 = .ok (.iconst 1, 1) := by decide +kernel
theorem dX5_told_33 : decode cX5_told 33 = .ok (.invokevirtual 45, 3) := by decide +kernel
theorem dX5_told_36 : decode cX5_told 36 = .ok (.ireturn, 1) := by decide +kernel
set_option maxRecDepth 20000 in
theorem ggX5_count_X5_isIn : GoodIn wsX5_count wsX5_isIn := goodIn_r _ [6] (by decide +kernel) (by decide +kernel)
set_option maxRecDepth 20000 in
theorem gX5_count_X5_isIn : GoodIn wsX5_count (va_wsS RX5 38 yX5_isIn wsX5_isIn) := goodIn_app (goodIn_of _ (by decide +kernel)) ggX5_count_X5_isIn
set_option maxRecDepth 20000 in
theorem ggX5_count_X4_counted : GoodIn wsX5_count wsX4_counted := goodIn_r _ [11, 12, 13, 14, 15, 16, 17, 18, 19, 20, 21, 10, 22, 23, 24, 25, 26, 27, 28, 29, 30, 31, 32, 33, 34, 35, 36, 37, 38, 39, 40, 52, 53, 54, 55, 56, 57, 58, 59, 60, 61, 62, 63, 64, 65, 66, 67, 45, 46, 47, 48, 49, 50, 51] (by decide +kernel) (by decide +kernel)
set_option maxRecDepth 20000 in
theorem gX5_count_X4_counted : GoodIn wsX5_count (wsV RX5 104 RX4 yX4_counted wsX4_counted) := goodIn_app (goodIn_of _ (by decide +kernel)) ggX5_count_X4_counted
set_option maxRecDepth 20000 in
theorem ggX5_count_X5_no : GoodIn wsX5_count wsX5_no := goodIn_r _ [44, 1, 45, 46, 47, 48, 49, 50, 51] (by decide +kernel) (by decide +kernel)
set_option maxRecDepth 20000 in
theorem gX5_count_X5_no : GoodIn wsX5_count (wsV RX5 45 RX5 yX5_no wsX5_no) := goodIn_app (goodIn_of _ (by decide +kernel)) ggX5_count_X5_no
theorem dX5_count_0 : decode cX5_count 0 = .ok (.aload_n 0, 1) := by decide +kernel
theorem dX5_count_1 : decode cX5_count 1 = .ok (.iconst 0, 1) := by decide +kernel
theorem dX5_count_2 : decode cX5_count 2 = .ok (.putfield 31, 3) := by decide +kernel
theorem dX5_count_5 : decode cX5_count 5 = .ok (.iload_n 1, 1) := by decide +kernel
theorem dX5_count_6 : decode cX5_count 6 = .ok (.iconst 0, 1) := by decide +kernel
theorem dX5_count_7 : decode cX5_count 7 = .ok (.bipush 9, 2) := by decide +kernel
theorem dX5_count_9 : decode cX5_count 9 = .ok (.invokestatic 38, 3) := by decide +kernel
theorem dX5_count_12 : decode cX5_count 12 = .ok (.ifCond .eq 14, 3) := by decide +kernel
theorem dX5_count_15 : decode cX5_count 15 = .ok (.aload_n 0, 1) := by decide +kernel
theorem dX5_count_16 : decode cX5_count 16 = .ok (.getfield 24, 3) := by decide +kernel
theorem dX5_count_19 : decode cX5_count 19 = .ok (.iload_n 1, 1) := by decide +kernel
theorem dX5_count_20 : decode cX5_count 20 = .ok (.invokevirtual 104, 3) := by decide +kernel
theorem dX5_count_23 : decode cX5_count 23 = .ok (.goto 8, 3) := by decide +kernel
theorem dX5_count_26 : decode cX5_count 26 = .ok (.aload_n 0, 1) := by decide +kernel
theorem dX5_count_27 : decode cX5_count 27 = .ok (.iconst 1, 1) := by decide +kernel
theorem dX5_count_28 : decode cX5_count 28 = .ok (.invokevirtual 45, 3) := by decide +kernel
theorem dX5_count_31 : decode cX5_count 31 = .ok (.ireturn, 1) := by decide +kernel
set_option maxRecDepth 20000 in
theorem ggX5_hinders_X5_isIn : GoodIn wsX5_hinders wsX5_isIn := goodIn_r _ [7] (by decide +kernel) (by decide +kernel)
set_option maxRecDepth 20000 in
theorem gX5_hinders_X5_isIn : GoodIn wsX5_hinders (va_wsS RX5 38 yX5_isIn wsX5_isIn) := goodIn_app (goodIn_of _ (by decide +kernel)) ggX5_hinders_X5_isIn
set_option maxRecDepth 20000 in
theorem ggX5_hinders_X5_no : GoodIn wsX5_hinders wsX5_no := goodIn_r _ [11, 1, 24, 25, 26, 27, 28, 29, 30] (by decide +kernel) (by decide +kernel)
set_option maxRecDepth 20000 in
theorem gX5_hinders_X5_no : GoodIn wsX5_hinders (wsV RX5 45 RX5 yX5_no wsX5_no) := goodIn_app (goodIn_of _ (by decide +kernel)) ggX5_hinders_X5_no
set_option maxRecDepth 20000 in
theorem ggX5_hinders_X4_isInWay : GoodIn wsX5_hinders wsX4_isInWay := goodIn_r _ [16, 17, 18, 19, 20, 21, 15, 22, 23, 31, 32, 33, 34, 35, 36, 37, 38, 39, 40, 41, 42, 43, 44, 45, 46] (by decide +kernel) (by decide +kernel)
set_option maxRecDepth 20000 in
theorem gX5_hinders_X4_isInWay : GoodIn wsX5_hinders (wsV RX5 91 RX4 yX4_isInWay wsX4_isInWay) := goodIn_app (goodIn_of _ (by decide +kernel)) ggX5_hinders_X4_isInWay
theorem dX5_hinders_0 : decode cX5_hinders 0 = .ok (.aload_n 0, 1) := by decide +kernel
theorem dX5_hinders_1 : decode cX5_hinders 1 = .ok (.iconst 0, 1) := by decide +kernel
theorem dX5_hinders_2 : decode cX5_hinders 2 = .ok (.putfield 31, 3) := by decide +kernel
theorem dX5_hinders_5 : decode cX5_hinders 5 = .ok (.iload_n 1, 1) := by decide +kernel
theorem dX5_hinders_6 : decode cX5_hinders 6 = .ok (.iconst 1, 1) := by decide +kernel
theorem dX5_hinders_7 : decode cX5_hinders 7 = .ok (.bipush 20, 2) := by decide +kernel
theorem dX5_hinders_9 : decode cX5_hinders 9 = .ok (.invokestatic 38, 3) := by decide +kernel
theorem dX5_hinders_12 : decode cX5_hinders 12 = .ok (.ifCond .ne 9, 3) := by decide +kernel
theorem dX5_hinders_15 : decode cX5_hinders 15 = .ok (.aload_n 0, 1) := by decide +kernel
theorem dX5_hinders_16 : decode cX5_hinders 16 = .ok (.iconst 1, 1) := by decide +kernel
theorem dX5_hinders_17 : decode cX5_hinders 17 = .ok (.invokevirtual 45, 3) := by decide +kernel
theorem dX5_hinders_20 : decode cX5_hinders 20 = .ok (.ireturn, 1) := by decide +kernel
theorem dX5_hinders_21 : decode cX5_hinders 21 = .ok (.iconst 0, 1) := by decide +kernel
theorem dX5_hinders_22 : decode cX5_hinders 22 = .ok (.istore_n 2, 1) := by decide +kernel
theorem dX5_hinders_23 : decode cX5_hinders 23 = .ok (.iconst 0, 1) := by decide +kernel
theorem dX5_hinders_24 : decode cX5_hinders 24 = .ok (.istore_n 3, 1) := by decide +kernel
theorem dX5_hinders_25 : decode cX5_hinders 25 = .ok (.iload_n 3, 1) := by decide +kernel
theorem dX5_hinders_26 : decode cX5_hinders 26 = .ok (.aload_n 0, 1) := by decide +kernel
theorem dX5_hinders_27 : decode cX5_hinders 27 = .ok (.getfield 35, 3) := by decide +kernel
theorem dX5_hinders_30 : decode cX5_hinders 30 = .ok (.if_icmp .ge 29, 3) := by decide +kernel
theorem dX5_hinders_33 : decode cX5_hinders 33 = .ok (.iload_n 2, 1) := by decide +kernel
theorem dX5_hinders_34 : decode cX5_hinders 34 = .ok (.aload_n 0, 1) := by decide +kernel
theorem dX5_hinders_35 : decode cX5_hinders 35 = .ok (.getfield 24, 3) := by decide +kernel
theorem dX5_hinders_38 : decode cX5_hinders 38 = .ok (.iload_n 3, 1) := by decide +kernel
theorem dX5_hinders_39 : decode cX5_hinders 39 = .ok (.iload_n 1, 1) := by decide +kernel
theorem dX5_hinders_40 : decode cX5_hinders 40 = .ok (.invokevirtual 91, 3) := by decide +kernel
theorem dX5_hinders_43 : decode cX5_hinders 43 = .ok (.ifCond .eq 7, 3) := by decide +kernel
theorem dX5_hinders_46 : decode cX5_hinders 46 = .ok (.iconst 1, 1) := by decide +kernel
theorem dX5_hinders_47 : decode cX5_hinders 47 = .ok (.goto 4, 3) := by decide +kernel
theorem dX5_hinders_50 : decode cX5_hinders 50 = .ok (.iconst 0, 1) := by decide +kernel
theorem dX5_hinders_51 : decode cX5_hinders 51 = .ok (.iadd, 1) := by decide +kernel
theorem dX5_hinders_52 : decode cX5_hinders 52 = .ok (.istore_n 2, 1) := by decide +kernel
theorem dX5_hinders_53 : decode cX5_hinders 53 = .ok (.iinc 3 1, 3) := by decide +kernel
theorem dX5_hinders_56 : decode cX5_hinders 56 = .ok (.goto (-31), 3) := by decide +kernel
theorem dX5_hinders_59 : decode cX5_hinders 59 = .ok (.iload_n 2, 1) := by decide +kernel
theorem dX5_hinders_60 : decode cX5_hinders 60 = .ok (.ireturn, 1) := by decide +kernel
set_option maxRecDepth 20000 in
theorem ggX5_richest_X4_isHeld : GoodIn wsX5_richest wsX4_isHeld := goodIn_r _ [8, 9, 17, 18, 19, 20, 21, 22, 23, 24, 25, 26, 27, 28, 29, 30, 31, 32] (by decide +kernel) (by decide +kernel)
set_option maxRecDepth 20000 in
theorem gX5_richest_X4_isHeld : GoodIn wsX5_richest (wsV RX5 62 RX4 yX4_isHeld wsX4_isHeld) := goodIn_app (goodIn_of _ (by decide +kernel)) ggX5_richest_X4_isHeld
theorem dX5_richest_0 : decode cX5_richest 0 = .ok (.aload_n 0, 1) := by decide +kernel
theorem dX5_richest_1 : decode cX5_richest 1 = .ok (.iconst 0, 1) := by decide +kernel
theorem dX5_richest_2 : decode cX5_richest 2 = .ok (.putfield 31, 3) := by decide +kernel
theorem dX5_richest_5 : decode cX5_richest 5 = .ok (.iconst (-1), 1) := by decide +kernel
theorem dX5_richest_6 : decode cX5_richest 6 = .ok (.istore_n 1, 1) := by decide +kernel
theorem dX5_richest_7 : decode cX5_richest 7 = .ok (.iconst 0, 1) := by decide +kernel
theorem dX5_richest_8 : decode cX5_richest 8 = .ok (.istore_n 2, 1) := by decide +kernel
theorem dX5_richest_9 : decode cX5_richest 9 = .ok (.iload_n 2, 1) := by decide +kernel
theorem dX5_richest_10 : decode cX5_richest 10 = .ok (.aload_n 0, 1) := by decide +kernel
theorem dX5_richest_11 : decode cX5_richest 11 = .ok (.getfield 35, 3) := by decide +kernel
theorem dX5_richest_14 : decode cX5_richest 14 = .ok (.if_icmp .ge 48, 3) := by decide +kernel
theorem dX5_richest_17 : decode cX5_richest 17 = .ok (.aload_n 0, 1) := by decide +kernel
theorem dX5_richest_18 : decode cX5_richest 18 = .ok (.getfield 24, 3) := by decide +kernel
theorem dX5_richest_21 : decode cX5_richest 21 = .ok (.iload_n 2, 1) := by decide +kernel
theorem dX5_richest_22 : decode cX5_richest 22 = .ok (.invokevirtual 62, 3) := by decide +kernel
theorem dX5_richest_25 : decode cX5_richest 25 = .ok (.ifCond .eq 31, 3) := by decide +kernel
theorem dX5_richest_28 : decode cX5_richest 28 = .ok (.iload_n 1, 1) := by decide +kernel
theorem dX5_richest_29 : decode cX5_richest 29 = .ok (.iconst (-1), 1) := by decide +kernel
theorem dX5_richest_30 : decode cX5_richest 30 = .ok (.if_icmp .eq 24, 3) := by decide +kernel
theorem dX5_richest_33 : decode cX5_richest 33 = .ok (.aload_n 0, 1) := by decide +kernel
theorem dX5_richest_34 : decode cX5_richest 34 = .ok (.getfield 24, 3) := by decide +kernel
theorem dX5_richest_37 : decode cX5_richest 37 = .ok (.getfield 55, 3) := by decide +kernel
theorem dX5_richest_40 : decode cX5_richest 40 = .ok (.iload_n 2, 1) := by decide +kernel
theorem dX5_richest_41 : decode cX5_richest 41 = .ok (.iaload, 1) := by decide +kernel
theorem dX5_richest_42 : decode cX5_richest 42 = .ok (.aload_n 0, 1) := by decide +kernel
theorem dX5_richest_43 : decode cX5_richest 43 = .ok (.getfield 24, 3) := by decide +kernel
theorem dX5_richest_46 : decode cX5_richest 46 = .ok (.getfield 55, 3) := by decide +kernel
theorem dX5_richest_49 : decode cX5_richest 49 = .ok (.iload_n 1, 1) := by decide +kernel
theorem dX5_richest_50 : decode cX5_richest 50 = .ok (.iaload, 1) := by decide +kernel
theorem dX5_richest_51 : decode cX5_richest 51 = .ok (.if_icmp .le 5, 3) := by decide +kernel
theorem dX5_richest_54 : decode cX5_richest 54 = .ok (.iload_n 2, 1) := by decide +kernel
theorem dX5_richest_55 : decode cX5_richest 55 = .ok (.istore_n 1, 1) := by decide +kernel
theorem dX5_richest_56 : decode cX5_richest 56 = .ok (.iinc 2 1, 3) := by decide +kernel
theorem dX5_richest_59 : decode cX5_richest 59 = .ok (.goto (-50), 3) := by decide +kernel
theorem dX5_richest_62 : decode cX5_richest 62 = .ok (.iload_n 1, 1) := by decide +kernel
theorem dX5_richest_63 : decode cX5_richest 63 = .ok (.ireturn, 1) := by decide +kernel
set_option maxRecDepth 20000 in
theorem ggX5_pass_X5_isIn : GoodIn wsX5_pass wsX5_isIn := goodIn_r _ [6] (by decide +kernel) (by decide +kernel)
set_option maxRecDepth 20000 in
theorem gX5_pass_X5_isIn : GoodIn wsX5_pass (va_wsS RX5 38 yX5_isIn wsX5_isIn) := goodIn_app (goodIn_of _ (by decide +kernel)) ggX5_pass_X5_isIn
set_option maxRecDepth 20000 in
theorem ggX5_pass_X5_no : GoodIn wsX5_pass wsX5_no := goodIn_r _ [10, 1, 79, 80, 81, 82, 83, 84, 85] (by decide +kernel) (by decide +kernel)
set_option maxRecDepth 20000 in
theorem gX5_pass_X5_no : GoodIn wsX5_pass (wsV RX5 45 RX5 yX5_no wsX5_no) := goodIn_app (goodIn_of _ (by decide +kernel)) ggX5_pass_X5_no
set_option maxRecDepth 20000 in
theorem ggX5_pass_X4_pass_ : GoodIn wsX5_pass wsX4_pass_ := goodIn_r _ [15, 16, 17, 18, 14, 19, 20, 21, 22, 23, 24, 25, 26, 27, 28, 29, 30, 31, 32, 33, 34, 35, 36, 37, 38, 39, 40, 41, 42, 43, 44, 45, 46, 47, 48, 49, 50, 51, 52, 53, 54, 55, 56, 57, 58, 59, 60, 61, 62, 63, 64, 65, 66, 67, 68, 69, 70, 71, 72, 73, 74, 75, 76, 77, 78, 86, 87, 88, 89, 90, 91, 92, 93, 94, 95, 96, 97, 98, 99, 100, 101, 79, 80, 81, 82, 83, 84, 85] (by decide +kernel) (by decide +kernel)
set_option maxRecDepth 20000 in
theorem gX5_pass_X4_pass_ : GoodIn wsX5_pass (wsV RX5 110 RX4 yX4_pass_ wsX4_pass_) := goodIn_app (goodIn_of _ (by decide +kernel)) ggX5_pass_X4_pass_
theorem dX5_pass_0 : decode cX5_pass 0 = .ok (.aload_n 0, 1) := by decide +kernel
theorem dX5_pass_1 : decode cX5_pass 1 = .ok (.iconst 0, 1) := by decide +kernel
theorem dX5_pass_2 : decode cX5_pass 2 = .ok (.putfield 31, 3) := by decide +kernel
theorem dX5_pass_5 : decode cX5_pass 5 = .ok (.iload_n 1, 1) := by decide +kernel
theorem dX5_pass_6 : decode cX5_pass 6 = .ok (.iconst 1, 1) := by decide +kernel
theorem dX5_pass_7 : decode cX5_pass 7 = .ok (.bipush 60, 2) := by decide +kernel
theorem dX5_pass_9 : decode cX5_pass 9 = .ok (.invokestatic 38, 3) := by decide +kernel
theorem dX5_pass_12 : decode cX5_pass 12 = .ok (.ifCond .ne 9, 3) := by decide +kernel
theorem dX5_pass_15 : decode cX5_pass 15 = .ok (.aload_n 0, 1) := by decide +kernel
theorem dX5_pass_16 : decode cX5_pass 16 = .ok (.iconst 1, 1) := by decide +kernel
theorem dX5_pass_17 : decode cX5_pass 17 = .ok (.invokevirtual 45, 3) := by decide +kernel
theorem dX5_pass_20 : decode cX5_pass 20 = .ok (.ireturn, 1) := by decide +kernel
theorem dX5_pass_21 : decode cX5_pass 21 = .ok (.aload_n 0, 1) := by decide +kernel
theorem dX5_pass_22 : decode cX5_pass 22 = .ok (.getfield 24, 3) := by decide +kernel
theorem dX5_pass_25 : decode cX5_pass 25 = .ok (.getfield 107, 3) := by decide +kernel
theorem dX5_pass_28 : decode cX5_pass 28 = .ok (.istore_n 2, 1) := by decide +kernel
theorem dX5_pass_29 : decode cX5_pass 29 = .ok (.aload_n 0, 1) := by decide +kernel
theorem dX5_pass_30 : decode cX5_pass 30 = .ok (.getfield 24, 3) := by decide +kernel
theorem dX5_pass_33 : decode cX5_pass 33 = .ok (.iload_n 1, 1) := by decide +kernel
theorem dX5_pass_34 : decode cX5_pass 34 = .ok (.invokevirtual 110, 3) := by decide +kernel
theorem dX5_pass_37 : decode cX5_pass 37 = .ok (.aload_n 0, 1) := by decide +kernel
theorem dX5_pass_38 : decode cX5_pass 38 = .ok (.getfield 24, 3) := by decide +kernel
theorem dX5_pass_41 : decode cX5_pass 41 = .ok (.getfield 107, 3) := by decide +kernel
theorem dX5_pass_44 : decode cX5_pass 44 = .ok (.iload_n 2, 1) := by decide +kernel
theorem dX5_pass_45 : decode cX5_pass 45 = .ok (.isub, 1) := by decide +kernel
theorem dX5_pass_46 : decode cX5_pass 46 = .ok (.ireturn, 1) := by decide +kernel
set_option maxRecDepth 20000 in
theorem ggX5_catches_X5_isWeir : GoodIn wsX5_catches wsX5_isWeir := goodIn_r _ [8, 9, 10, 11, 7, 12, 66, 67, 68, 69, 70, 71, 72] (by decide +kernel) (by decide +kernel)
set_option maxRecDepth 20000 in
theorem gX5_catches_X5_isWeir : GoodIn wsX5_catches (wsV RX5 58 RX5 yX5_isWeir wsX5_isWeir) := goodIn_app (goodIn_of _ (by decide +kernel)) ggX5_catches_X5_isWeir
set_option maxRecDepth 20000 in
theorem ggX5_catches_X4_become : GoodIn wsX5_catches wsX4_become := goodIn_r _ [17, 18, 19, 20, 21, 22, 23, 24, 25, 26, 27, 28, 29, 30, 31, 32, 33, 34, 35, 16, 36, 37, 38, 39, 40, 73, 74, 75, 76, 77, 78, 79, 80, 81, 82, 83, 84, 85, 86, 87, 88] (by decide +kernel) (by decide +kernel)
set_option maxRecDepth 20000 in
theorem gX5_catches_X4_become : GoodIn wsX5_catches (wsV RX5 114 RX4 yX4_become wsX4_become) := goodIn_app (goodIn_of _ (by decide +kernel)) ggX5_catches_X4_become
set_option maxRecDepth 20000 in
theorem ggX5_catches_X4_runDown : GoodIn wsX5_catches wsX4_runDown := goodIn_r _ [44, 45, 27, 23, 24, 26, 46, 47, 48, 49, 50, 51, 52, 16, 53, 18, 54, 55, 56, 57, 58, 59, 60, 61, 28, 73, 74, 75, 76, 77, 78, 79, 80, 81, 82, 83, 84, 85, 86, 87, 88, 66, 67, 68, 69, 70, 71, 72] (by decide +kernel) (by decide +kernel)
set_option maxRecDepth 20000 in
theorem gX5_catches_X4_runDown : GoodIn wsX5_catches (wsV RX5 118 RX4 yX4_runDown wsX4_runDown) := goodIn_app (goodIn_of _ (by decide +kernel)) ggX5_catches_X4_runDown
set_option maxRecDepth 20000 in
theorem ggX5_catches_X5_no : GoodIn wsX5_catches wsX5_no := goodIn_r _ [65, 1, 66, 67, 68, 69, 70, 71, 72] (by decide +kernel) (by decide +kernel)
set_option maxRecDepth 20000 in
theorem gX5_catches_X5_no : GoodIn wsX5_catches (wsV RX5 45 RX5 yX5_no wsX5_no) := goodIn_app (goodIn_of _ (by decide +kernel)) ggX5_catches_X5_no
theorem dX5_catches_0 : decode cX5_catches 0 = .ok (.aload_n 0, 1) := by decide +kernel
theorem dX5_catches_1 : decode cX5_catches 1 = .ok (.iconst 0, 1) := by decide +kernel
theorem dX5_catches_2 : decode cX5_catches 2 = .ok (.putfield 31, 3) := by decide +kernel
theorem dX5_catches_5 : decode cX5_catches 5 = .ok (.aload_n 0, 1) := by decide +kernel
theorem dX5_catches_6 : decode cX5_catches 6 = .ok (.iload_n 1, 1) := by decide +kernel
theorem dX5_catches_7 : decode cX5_catches 7 = .ok (.invokevirtual 58, 3) := by decide +kernel
theorem dX5_catches_10 : decode cX5_catches 10 = .ok (.ifCond .eq 21, 3) := by decide +kernel
theorem dX5_catches_13 : decode cX5_catches 13 = .ok (.aload_n 0, 1) := by decide +kernel
theorem dX5_catches_14 : decode cX5_catches 14 = .ok (.getfield 28, 3) := by decide +kernel
theorem dX5_catches_17 : decode cX5_catches 17 = .ok (.aload_n 0, 1) := by decide +kernel
theorem dX5_catches_18 : decode cX5_catches 18 = .ok (.getfield 24, 3) := by decide +kernel
theorem dX5_catches_21 : decode cX5_catches 21 = .ok (.invokevirtual 114, 3) := by decide +kernel
theorem dX5_catches_24 : decode cX5_catches 24 = .ok (.iload_n 1, 1) := by decide +kernel
theorem dX5_catches_25 : decode cX5_catches 25 = .ok (.invokevirtual 118, 3) := by decide +kernel
theorem dX5_catches_28 : decode cX5_catches 28 = .ok (.goto 8, 3) := by decide +kernel
theorem dX5_catches_31 : decode cX5_catches 31 = .ok (.aload_n 0, 1) := by decide +kernel
theorem dX5_catches_32 : decode cX5_catches 32 = .ok (.iconst 1, 1) := by decide +kernel
theorem dX5_catches_33 : decode cX5_catches 33 = .ok (.invokevirtual 45, 3) := by decide +kernel
theorem dX5_catches_36 : decode cX5_catches 36 = .ok (.ireturn, 1) := by decide +kernel
theorem dX5_isUnderWay_0 : decode cX5_isUnderWay 0 = .ok (.iconst 0, 1) := by decide +kernel
theorem dX5_isUnderWay_1 : decode cX5_isUnderWay 1 = .ok (.istore_n 2, 1) := by decide +kernel
theorem dX5_isUnderWay_2 : decode cX5_isUnderWay 2 = .ok (.iload_n 2, 1) := by decide +kernel
theorem dX5_isUnderWay_3 : decode cX5_isUnderWay 3 = .ok (.aload_n 0, 1) := by decide +kernel
theorem dX5_isUnderWay_4 : decode cX5_isUnderWay 4 = .ok (.getfield 28, 3) := by decide +kernel
theorem dX5_isUnderWay_7 : decode cX5_isUnderWay 7 = .ok (.getfield 42, 3) := by decide +kernel
theorem dX5_isUnderWay_10 : decode cX5_isUnderWay 10 = .ok (.if_icmp .ge 24, 3) := by decide +kernel
theorem dX5_isUnderWay_13 : decode cX5_isUnderWay 13 = .ok (.aload_n 0, 1) := by decide +kernel
theorem dX5_isUnderWay_14 : decode cX5_isUnderWay 14 = .ok (.getfield 28, 3) := by decide +kernel
theorem dX5_isUnderWay_17 : decode cX5_isUnderWay 17 = .ok (.getfield 121, 3) := by decide +kernel
theorem dX5_isUnderWay_20 : decode cX5_isUnderWay 20 = .ok (.iload_n 2, 1) := by decide +kernel
theorem dX5_isUnderWay_21 : decode cX5_isUnderWay 21 = .ok (.iaload, 1) := by decide +kernel
theorem dX5_isUnderWay_22 : decode cX5_isUnderWay 22 = .ok (.iload_n 1, 1) := by decide +kernel
theorem dX5_isUnderWay_23 : decode cX5_isUnderWay 23 = .ok (.if_icmp .ne 5, 3) := by decide +kernel
theorem dX5_isUnderWay_26 : decode cX5_isUnderWay 26 = .ok (.iconst 1, 1) := by decide +kernel
theorem dX5_isUnderWay_27 : decode cX5_isUnderWay 27 = .ok (.ireturn, 1) := by decide +kernel
theorem dX5_isUnderWay_28 : decode cX5_isUnderWay 28 = .ok (.iinc 2 1, 3) := by decide +kernel
theorem dX5_isUnderWay_31 : decode cX5_isUnderWay 31 = .ok (.goto (-29), 3) := by decide +kernel
theorem dX5_isUnderWay_34 : decode cX5_isUnderWay 34 = .ok (.iconst 0, 1) := by decide +kernel
theorem dX5_isUnderWay_35 : decode cX5_isUnderWay 35 = .ok (.ireturn, 1) := by decide +kernel
set_option maxRecDepth 20000 in
theorem ggX5_arrives_X5_isBarge : GoodIn wsX5_arrives wsX5_isBarge := goodIn_r _ [8, 3, 9, 10, 7, 11, 96, 97, 98, 99, 100, 101, 102, 103, 104, 105, 106, 107, 108, 109, 110, 111, 112, 113, 114, 115, 116, 117, 118] (by decide +kernel) (by decide +kernel)
set_option maxRecDepth 20000 in
theorem gX5_arrives_X5_isBarge : GoodIn wsX5_arrives (wsV RX5 98 RX5 yX5_isBarge wsX5_isBarge) := goodIn_app (goodIn_of _ (by decide +kernel)) ggX5_arrives_X5_isBarge
set_option maxRecDepth 20000 in
theorem ggX5_arrives_X5_no : GoodIn wsX5_arrives wsX5_no := goodIn_r _ [15, 1, 96, 97, 98, 99, 100, 101, 102] (by decide +kernel) (by decide +kernel)
set_option maxRecDepth 20000 in
theorem gX5_arrives_X5_no : GoodIn wsX5_arrives (wsV RX5 45 RX5 yX5_no wsX5_no) := goodIn_app (goodIn_of _ (by decide +kernel)) ggX5_arrives_X5_no
set_option maxRecDepth 20000 in
theorem ggX5_arrives_X4_become : GoodIn wsX5_arrives wsX4_become := goodIn_r _ [20, 21, 22, 23, 24, 25, 26, 27, 28, 29, 30, 31, 32, 33, 34, 35, 36, 37, 38, 19, 39, 40, 41, 42, 43, 103, 104, 105, 106, 107, 108, 109, 110, 111, 112, 113, 114, 115, 116, 117, 118] (by decide +kernel) (by decide +kernel)
set_option maxRecDepth 20000 in
theorem gX5_arrives_X4_become : GoodIn wsX5_arrives (wsV RX5 114 RX4 yX4_become wsX4_become) := goodIn_app (goodIn_of _ (by decide +kernel)) ggX5_arrives_X4_become
set_option maxRecDepth 20000 in
theorem ggX5_arrives_X5_isUnderWay : GoodIn wsX5_arrives wsX5_isUnderWay := goodIn_r _ [47, 2, 96, 97, 98, 99, 100, 101, 102, 103, 104, 105, 106, 107, 108, 109, 110, 111, 112, 113, 114, 115, 116, 117, 118] (by decide +kernel) (by decide +kernel)
set_option maxRecDepth 20000 in
theorem gX5_arrives_X5_isUnderWay : GoodIn wsX5_arrives (wsV RX5 124 RX5 yX5_isUnderWay wsX5_isUnderWay) := goodIn_app (goodIn_of _ (by decide +kernel)) ggX5_arrives_X5_isUnderWay
set_option maxRecDepth 20000 in
theorem ggX5_arrives_X4_pass : GoodIn wsX5_arrives wsX4_pass := goodIn_r _ [51, 22, 52, 27, 53, 54, 55, 56, 21, 57, 58, 59, 19, 60, 30, 26, 29, 61, 62, 63, 64, 65, 66, 67, 68, 69, 70, 71, 72, 73, 74, 75, 31, 76, 77, 78, 79, 33, 80, 81, 82, 83, 32, 28, 24, 34, 84, 85, 86, 87, 88, 89, 90, 91, 23, 35, 92, 93, 94, 95, 25, 103, 104, 105, 106, 107, 108, 109, 110, 111, 112, 113, 114, 115, 116, 117, 118, 96, 97, 98, 99, 100, 101, 102] (by decide +kernel) (by decide +kernel)
set_option maxRecDepth 20000 in
theorem gX5_arrives_X4_pass : GoodIn wsX5_arrives (wsV RX5 127 RX4 yX4_pass wsX4_pass) := goodIn_app (goodIn_of _ (by decide +kernel)) ggX5_arrives_X4_pass
theorem dX5_arrives_0 : decode cX5_arrives 0 = .ok (.aload_n 0, 1) := by decide +kernel
theorem dX5_arrives_1 : decode cX5_arrives 1 = .ok (.iconst 0, 1) := by decide +kernel
theorem dX5_arrives_2 : decode cX5_arrives 2 = .ok (.putfield 31, 3) := by decide +kernel
theorem dX5_arrives_5 : decode cX5_arrives 5 = .ok (.aload_n 0, 1) := by decide +kernel
theorem dX5_arrives_6 : decode cX5_arrives 6 = .ok (.iload_n 1, 1) := by decide +kernel
theorem dX5_arrives_7 : decode cX5_arrives 7 = .ok (.invokevirtual 98, 3) := by decide +kernel
theorem dX5_arrives_10 : decode cX5_arrives 10 = .ok (.ifCond .ne 9, 3) := by decide +kernel
theorem dX5_arrives_13 : decode cX5_arrives 13 = .ok (.aload_n 0, 1) := by decide +kernel
theorem dX5_arrives_14 : decode cX5_arrives 14 = .ok (.iconst 1, 1) := by decide +kernel
theorem dX5_arrives_15 : decode cX5_arrives 15 = .ok (.invokevirtual 45, 3) := by decide +kernel
theorem dX5_arrives_18 : decode cX5_arrives 18 = .ok (.ireturn, 1) := by decide +kernel
theorem dX5_arrives_19 : decode cX5_arrives 19 = .ok (.aload_n 0, 1) := by decide +kernel
theorem dX5_arrives_20 : decode cX5_arrives 20 = .ok (.getfield 28, 3) := by decide +kernel
theorem dX5_arrives_23 : decode cX5_arrives 23 = .ok (.aload_n 0, 1) := by decide +kernel
theorem dX5_arrives_24 : decode cX5_arrives 24 = .ok (.getfield 24, 3) := by decide +kernel
theorem dX5_arrives_27 : decode cX5_arrives 27 = .ok (.invokevirtual 114, 3) := by decide +kernel
theorem dX5_arrives_30 : decode cX5_arrives 30 = .ok (.pop, 1) := by decide +kernel
theorem dX5_arrives_31 : decode cX5_arrives 31 = .ok (.iconst 0, 1) := by decide +kernel
theorem dX5_arrives_32 : decode cX5_arrives 32 = .ok (.istore_n 2, 1) := by decide +kernel
theorem dX5_arrives_33 : decode cX5_arrives 33 = .ok (.aload_n 0, 1) := by decide +kernel
theorem dX5_arrives_34 : decode cX5_arrives 34 = .ok (.iload_n 1, 1) := by decide +kernel
theorem dX5_arrives_35 : decode cX5_arrives 35 = .ok (.invokevirtual 124, 3) := by decide +kernel
theorem dX5_arrives_38 : decode cX5_arrives 38 = .ok (.ifCond .eq 16, 3) := by decide +kernel
theorem dX5_arrives_41 : decode cX5_arrives 41 = .ok (.aload_n 0, 1) := by decide +kernel
theorem dX5_arrives_42 : decode cX5_arrives 42 = .ok (.getfield 28, 3) := by decide +kernel
theorem dX5_arrives_45 : decode cX5_arrives 45 = .ok (.invokevirtual 127, 3) := by decide +kernel
theorem dX5_arrives_48 : decode cX5_arrives 48 = .ok (.iinc 2 1, 3) := by decide +kernel
theorem dX5_arrives_51 : decode cX5_arrives 51 = .ok (.goto (-18), 3) := by decide +kernel
theorem dX5_arrives_54 : decode cX5_arrives 54 = .ok (.iload_n 2, 1) := by decide +kernel
theorem dX5_arrives_55 : decode cX5_arrives 55 = .ok (.ireturn, 1) := by decide +kernel
set_option maxRecDepth 20000 in
theorem ggX5_lasts_X5_isWeir : GoodIn wsX5_lasts wsX5_isWeir := goodIn_r _ [8, 9, 10, 11, 7, 12, 94, 95, 96, 97, 98, 99, 100] (by decide +kernel) (by decide +kernel)
set_option maxRecDepth 20000 in
theorem gX5_lasts_X5_isWeir : GoodIn wsX5_lasts (wsV RX5 58 RX5 yX5_isWeir wsX5_isWeir) := goodIn_app (goodIn_of _ (by decide +kernel)) ggX5_lasts_X5_isWeir
set_option maxRecDepth 20000 in
theorem ggX5_lasts_X5_no : GoodIn wsX5_lasts wsX5_no := goodIn_r _ [16, 1, 94, 95, 96, 97, 98, 99, 100] (by decide +kernel) (by decide +kernel)
set_option maxRecDepth 20000 in
theorem gX5_lasts_X5_no : GoodIn wsX5_lasts (wsV RX5 45 RX5 yX5_no wsX5_no) := goodIn_app (goodIn_of _ (by decide +kernel)) ggX5_lasts_X5_no
set_option maxRecDepth 20000 in
theorem ggX5_lasts_X4_become : GoodIn wsX5_lasts wsX4_become := goodIn_r _ [21, 22, 23, 24, 25, 26, 27, 28, 29, 30, 31, 32, 33, 34, 35, 36, 37, 38, 39, 20, 40, 41, 42, 43, 44, 101, 102, 103, 104, 105, 106, 107, 108, 109, 110, 111, 112, 113, 114, 115, 116] (by decide +kernel) (by decide +kernel)
set_option maxRecDepth 20000 in
theorem gX5_lasts_X4_become : GoodIn wsX5_lasts (wsV RX5 114 RX4 yX4_become wsX4_become) := goodIn_app (goodIn_of _ (by decide +kernel)) ggX5_lasts_X4_become
set_option maxRecDepth 20000 in
theorem ggX5_lasts_X4_isHeld : GoodIn wsX5_lasts wsX4_isHeld := goodIn_r _ [48, 32, 101, 102, 103, 104, 105, 106, 107, 108, 109, 110, 111, 112, 113, 114, 115, 116] (by decide +kernel) (by decide +kernel)
set_option maxRecDepth 20000 in
theorem gX5_lasts_X4_isHeld : GoodIn wsX5_lasts (wsV RX5 62 RX4 yX4_isHeld wsX4_isHeld) := goodIn_app (goodIn_of _ (by decide +kernel)) ggX5_lasts_X4_isHeld
set_option maxRecDepth 20000 in
theorem ggX5_lasts_X4_pass : GoodIn wsX5_lasts wsX4_pass := goodIn_r _ [52, 23, 53, 28, 54, 55, 56, 57, 22, 58, 59, 60, 20, 61, 31, 27, 30, 62, 63, 64, 65, 66, 67, 68, 69, 70, 71, 72, 73, 46, 47, 48, 32, 74, 75, 76, 77, 34, 78, 79, 80, 81, 33, 29, 25, 35, 82, 83, 84, 85, 86, 87, 88, 89, 24, 36, 90, 91, 92, 93, 26, 101, 102, 103, 104, 105, 106, 107, 108, 109, 110, 111, 112, 113, 114, 115, 116, 94, 95, 96, 97, 98, 99, 100] (by decide +kernel) (by decide +kernel)
set_option maxRecDepth 20000 in
theorem gX5_lasts_X4_pass : GoodIn wsX5_lasts (wsV RX5 127 RX4 yX4_pass wsX4_pass) := goodIn_app (goodIn_of _ (by decide +kernel)) ggX5_lasts_X4_pass
theorem dX5_lasts_0 : decode cX5_lasts 0 = .ok (.aload_n 0, 1) := by decide +kernel
theorem dX5_lasts_1 : decode cX5_lasts 1 = .ok (.iconst 0, 1) := by decide +kernel
theorem dX5_lasts_2 : decode cX5_lasts 2 = .ok (.putfield 31, 3) := by decide +kernel
theorem dX5_lasts_5 : decode cX5_lasts 5 = .ok (.aload_n 0, 1) := by decide +kernel
theorem dX5_lasts_6 : decode cX5_lasts 6 = .ok (.iload_n 1, 1) := by decide +kernel
theorem dX5_lasts_7 : decode cX5_lasts 7 = .ok (.invokevirtual 58, 3) := by decide +kernel
theorem dX5_lasts_10 : decode cX5_lasts 10 = .ok (.ifCond .ne 9, 3) := by decide +kernel
theorem dX5_lasts_13 : decode cX5_lasts 13 = .ok (.aload_n 0, 1) := by decide +kernel
theorem dX5_lasts_14 : decode cX5_lasts 14 = .ok (.iconst 1, 1) := by decide +kernel
theorem dX5_lasts_15 : decode cX5_lasts 15 = .ok (.invokevirtual 45, 3) := by decide +kernel
theorem dX5_lasts_18 : decode cX5_lasts 18 = .ok (.ireturn, 1) := by decide +kernel
theorem dX5_lasts_19 : decode cX5_lasts 19 = .ok (.aload_n 0, 1) := by decide +kernel
theorem dX5_lasts_20 : decode cX5_lasts 20 = .ok (.getfield 28, 3) := by decide +kernel
theorem dX5_lasts_23 : decode cX5_lasts 23 = .ok (.aload_n 0, 1) := by decide +kernel
theorem dX5_lasts_24 : decode cX5_lasts 24 = .ok (.getfield 24, 3) := by decide +kernel
theorem dX5_lasts_27 : decode cX5_lasts 27 = .ok (.invokevirtual 114, 3) := by decide +kernel
theorem dX5_lasts_30 : decode cX5_lasts 30 = .ok (.pop, 1) := by decide +kernel
theorem dX5_lasts_31 : decode cX5_lasts 31 = .ok (.iconst 0, 1) := by decide +kernel
theorem dX5_lasts_32 : decode cX5_lasts 32 = .ok (.istore_n 2, 1) := by decide +kernel
theorem dX5_lasts_33 : decode cX5_lasts 33 = .ok (.aload_n 0, 1) := by decide +kernel
theorem dX5_lasts_34 : decode cX5_lasts 34 = .ok (.getfield 28, 3) := by decide +kernel
theorem dX5_lasts_37 : decode cX5_lasts 37 = .ok (.getfield 52, 3) := by decide +kernel
theorem dX5_lasts_40 : decode cX5_lasts 40 = .ok (.iload_n 1, 1) := by decide +kernel
theorem dX5_lasts_41 : decode cX5_lasts 41 = .ok (.iaload, 1) := by decide +kernel
theorem dX5_lasts_42 : decode cX5_lasts 42 = .ok (.ifCond .le 27, 3) := by decide +kernel
theorem dX5_lasts_45 : decode cX5_lasts 45 = .ok (.aload_n 0, 1) := by decide +kernel
theorem dX5_lasts_46 : decode cX5_lasts 46 = .ok (.getfield 28, 3) := by decide +kernel
theorem dX5_lasts_49 : decode cX5_lasts 49 = .ok (.iload_n 1, 1) := by decide +kernel
theorem dX5_lasts_50 : decode cX5_lasts 50 = .ok (.invokevirtual 62, 3) := by decide +kernel
theorem dX5_lasts_53 : decode cX5_lasts 53 = .ok (.ifCond .eq 16, 3) := by decide +kernel
theorem dX5_lasts_56 : decode cX5_lasts 56 = .ok (.aload_n 0, 1) := by decide +kernel
theorem dX5_lasts_57 : decode cX5_lasts 57 = .ok (.getfield 28, 3) := by decide +kernel
theorem dX5_lasts_60 : decode cX5_lasts 60 = .ok (.invokevirtual 127, 3) := by decide +kernel
theorem dX5_lasts_63 : decode cX5_lasts 63 = .ok (.iinc 2 1, 3) := by decide +kernel
theorem dX5_lasts_66 : decode cX5_lasts 66 = .ok (.goto (-33), 3) := by decide +kernel
theorem dX5_lasts_69 : decode cX5_lasts 69 = .ok (.iload_n 2, 1) := by decide +kernel
theorem dX5_lasts_70 : decode cX5_lasts 70 = .ok (.ireturn, 1) := by decide +kernel
set_option maxRecDepth 20000 in
theorem ggX5_foresee_X5_isIn : GoodIn wsX5_foresee wsX5_isIn := goodIn_r _ [7] (by decide +kernel) (by decide +kernel)
set_option maxRecDepth 20000 in
theorem gX5_foresee_X5_isIn : GoodIn wsX5_foresee (va_wsS RX5 38 yX5_isIn wsX5_isIn) := goodIn_app (goodIn_of _ (by decide +kernel)) ggX5_foresee_X5_isIn
set_option maxRecDepth 20000 in
theorem ggX5_foresee_X5_no : GoodIn wsX5_foresee wsX5_no := goodIn_r _ [11, 1, 105, 106, 107, 108, 109, 110, 111] (by decide +kernel) (by decide +kernel)
set_option maxRecDepth 20000 in
theorem gX5_foresee_X5_no : GoodIn wsX5_foresee (wsV RX5 45 RX5 yX5_no wsX5_no) := goodIn_app (goodIn_of _ (by decide +kernel)) ggX5_foresee_X5_no
set_option maxRecDepth 20000 in
theorem ggX5_foresee_X4_become : GoodIn wsX5_foresee wsX4_become := goodIn_r _ [16, 17, 18, 19, 20, 21, 22, 23, 24, 25, 26, 27, 28, 29, 30, 31, 32, 33, 34, 15, 35, 36, 37, 38, 39, 112, 113, 114, 115, 116, 117, 118, 119, 120, 121, 122, 123, 124, 125, 126, 127] (by decide +kernel) (by decide +kernel)
set_option maxRecDepth 20000 in
theorem gX5_foresee_X4_become : GoodIn wsX5_foresee (wsV RX5 114 RX4 yX4_become wsX4_become) := goodIn_app (goodIn_of _ (by decide +kernel)) ggX5_foresee_X4_become
set_option maxRecDepth 20000 in
theorem ggX5_foresee_X4_pass_ : GoodIn wsX5_foresee wsX4_pass_ := goodIn_r _ [43, 44, 45, 46, 15, 47, 18, 48, 23, 49, 50, 51, 52, 17, 53, 54, 55, 56, 26, 22, 25, 57, 58, 59, 60, 61, 62, 63, 64, 65, 66, 67, 68, 69, 70, 71, 27, 72, 73, 74, 75, 29, 76, 77, 78, 79, 28, 24, 20, 30, 80, 81, 82, 83, 84, 85, 86, 87, 19, 31, 88, 89, 90, 91, 21, 112, 113, 114, 115, 116, 117, 118, 119, 120, 121, 122, 123, 124, 125, 126, 127, 105, 106, 107, 108, 109, 110, 111] (by decide +kernel) (by decide +kernel)
set_option maxRecDepth 20000 in
theorem gX5_foresee_X4_pass_ : GoodIn wsX5_foresee (wsV RX5 110 RX4 yX4_pass_ wsX4_pass_) := goodIn_app (goodIn_of _ (by decide +kernel)) ggX5_foresee_X4_pass_
set_option maxRecDepth 20000 in
theorem ggX5_foresee_X4_counted : GoodIn wsX5_foresee wsX4_counted := goodIn_r _ [95, 96, 17, 48, 18, 19, 20, 21, 64, 65, 66, 15, 67, 60, 61, 62, 63, 97, 98, 99, 100, 68, 69, 70, 71, 27, 101, 102, 103, 104, 25, 112, 113, 114, 115, 116, 117, 118, 119, 120, 121, 122, 123, 124, 125, 126, 127, 105, 106, 107, 108, 109, 110, 111] (by decide +kernel) (by decide +kernel)
set_option maxRecDepth 20000 in
theorem gX5_foresee_X4_counted : GoodIn wsX5_foresee (wsV RX5 104 RX4 yX4_counted wsX4_counted) := goodIn_app (goodIn_of _ (by decide +kernel)) ggX5_foresee_X4_counted
theorem dX5_foresee_0 : decode cX5_foresee 0 = .ok (.aload_n 0, 1) := by decide +kernel
theorem dX5_foresee_1 : decode cX5_foresee 1 = .ok (.iconst 0, 1) := by decide +kernel
theorem dX5_foresee_2 : decode cX5_foresee 2 = .ok (.putfield 31, 3) := by decide +kernel
theorem dX5_foresee_5 : decode cX5_foresee 5 = .ok (.iload_n 1, 1) := by decide +kernel
theorem dX5_foresee_6 : decode cX5_foresee 6 = .ok (.iconst 1, 1) := by decide +kernel
theorem dX5_foresee_7 : decode cX5_foresee 7 = .ok (.bipush 56, 2) := by decide +kernel
theorem dX5_foresee_9 : decode cX5_foresee 9 = .ok (.invokestatic 38, 3) := by decide +kernel
theorem dX5_foresee_12 : decode cX5_foresee 12 = .ok (.ifCond .ne 9, 3) := by decide +kernel
theorem dX5_foresee_15 : decode cX5_foresee 15 = .ok (.aload_n 0, 1) := by decide +kernel
theorem dX5_foresee_16 : decode cX5_foresee 16 = .ok (.iconst 1, 1) := by decide +kernel
theorem dX5_foresee_17 : decode cX5_foresee 17 = .ok (.invokevirtual 45, 3) := by decide +kernel
theorem dX5_foresee_20 : decode cX5_foresee 20 = .ok (.ireturn, 1) := by decide +kernel
theorem dX5_foresee_21 : decode cX5_foresee 21 = .ok (.iload_n 2, 1) := by decide +kernel
theorem dX5_foresee_22 : decode cX5_foresee 22 = .ok (.iconst 4, 1) := by decide +kernel
theorem dX5_foresee_23 : decode cX5_foresee 23 = .ok (.if_icmp .eq 20, 3) := by decide +kernel
theorem dX5_foresee_26 : decode cX5_foresee 26 = .ok (.iload_n 2, 1) := by decide +kernel
theorem dX5_foresee_27 : decode cX5_foresee 27 = .ok (.bipush 6, 2) := by decide +kernel
theorem dX5_foresee_29 : decode cX5_foresee 29 = .ok (.bipush 9, 2) := by decide +kernel
theorem dX5_foresee_31 : decode cX5_foresee 31 = .ok (.invokestatic 38, 3) := by decide +kernel
theorem dX5_foresee_34 : decode cX5_foresee 34 = .ok (.ifCond .ne 9, 3) := by decide +kernel
theorem dX5_foresee_37 : decode cX5_foresee 37 = .ok (.aload_n 0, 1) := by decide +kernel
theorem dX5_foresee_38 : decode cX5_foresee 38 = .ok (.iconst 2, 1) := by decide +kernel
theorem dX5_foresee_39 : decode cX5_foresee 39 = .ok (.invokevirtual 45, 3) := by decide +kernel
theorem dX5_foresee_42 : decode cX5_foresee 42 = .ok (.ireturn, 1) := by decide +kernel
theorem dX5_foresee_43 : decode cX5_foresee 43 = .ok (.aload_n 0, 1) := by decide +kernel
theorem dX5_foresee_44 : decode cX5_foresee 44 = .ok (.getfield 28, 3) := by decide +kernel
theorem dX5_foresee_47 : decode cX5_foresee 47 = .ok (.aload_n 0, 1) := by decide +kernel
theorem dX5_foresee_48 : decode cX5_foresee 48 = .ok (.getfield 24, 3) := by decide +kernel
theorem dX5_foresee_51 : decode cX5_foresee 51 = .ok (.invokevirtual 114, 3) := by decide +kernel
theorem dX5_foresee_54 : decode cX5_foresee 54 = .ok (.iload_n 1, 1) := by decide +kernel
theorem dX5_foresee_55 : decode cX5_foresee 55 = .ok (.invokevirtual 110, 3) := by decide +kernel
theorem dX5_foresee_58 : decode cX5_foresee 58 = .ok (.aload_n 0, 1) := by decide +kernel
theorem dX5_foresee_59 : decode cX5_foresee 59 = .ok (.getfield 28, 3) := by decide +kernel
theorem dX5_foresee_62 : decode cX5_foresee 62 = .ok (.iload_n 2, 1) := by decide +kernel
theorem dX5_foresee_63 : decode cX5_foresee 63 = .ok (.invokevirtual 104, 3) := by decide +kernel
theorem dX5_foresee_66 : decode cX5_foresee 66 = .ok (.ireturn, 1) := by decide +kernel
set_option maxRecDepth 20000 in
theorem ggX5_advise_X5_isWeir : GoodIn wsX5_advise wsX5_isWeir := goodIn_r _ [8, 9, 10, 11, 7, 12, 97, 98, 99, 100, 101, 102, 103] (by decide +kernel) (by decide +kernel)
set_option maxRecDepth 20000 in
theorem gX5_advise_X5_isWeir : GoodIn wsX5_advise (wsV RX5 58 RX5 yX5_isWeir wsX5_isWeir) := goodIn_app (goodIn_of _ (by decide +kernel)) ggX5_advise_X5_isWeir
set_option maxRecDepth 20000 in
theorem ggX5_advise_X5_no : GoodIn wsX5_advise wsX5_no := goodIn_r _ [16, 1, 97, 98, 99, 100, 101, 102, 103] (by decide +kernel) (by decide +kernel)
set_option maxRecDepth 20000 in
theorem gX5_advise_X5_no : GoodIn wsX5_advise (wsV RX5 45 RX5 yX5_no wsX5_no) := goodIn_app (goodIn_of _ (by decide +kernel)) ggX5_advise_X5_no
set_option maxRecDepth 20000 in
theorem ggX5_advise_X5_isIn : GoodIn wsX5_advise wsX5_isIn := goodIn_r _ [12] (by decide +kernel) (by decide +kernel)
set_option maxRecDepth 20000 in
theorem gX5_advise_X5_isIn : GoodIn wsX5_advise (va_wsS RX5 38 yX5_isIn wsX5_isIn) := goodIn_app (goodIn_of _ (by decide +kernel)) ggX5_advise_X5_isIn
set_option maxRecDepth 20000 in
theorem ggX5_advise_X4_become : GoodIn wsX5_advise wsX4_become := goodIn_r _ [21, 22, 23, 24, 25, 26, 27, 28, 29, 30, 31, 32, 33, 34, 35, 36, 37, 38, 39, 20, 40, 41, 42, 43, 44, 104, 105, 106, 107, 108, 109, 110, 111, 112, 113, 114, 115, 116, 117, 118, 119] (by decide +kernel) (by decide +kernel)
set_option maxRecDepth 20000 in
theorem gX5_advise_X4_become : GoodIn wsX5_advise (wsV RX5 114 RX4 yX4_become wsX4_become) := goodIn_app (goodIn_of _ (by decide +kernel)) ggX5_advise_X4_become
set_option maxRecDepth 20000 in
theorem ggX5_advise_X4_pass_ : GoodIn wsX5_advise wsX4_pass_ := goodIn_r _ [48, 49, 50, 51, 20, 52, 23, 53, 28, 54, 55, 56, 57, 22, 58, 59, 60, 61, 31, 27, 30, 62, 63, 64, 65, 66, 67, 68, 69, 70, 71, 72, 73, 74, 75, 76, 32, 77, 78, 79, 80, 34, 81, 82, 83, 84, 33, 29, 25, 35, 85, 86, 87, 88, 89, 90, 91, 92, 24, 36, 93, 94, 95, 96, 26, 104, 105, 106, 107, 108, 109, 110, 111, 112, 113, 114, 115, 116, 117, 118, 119, 97, 98, 99, 100, 101, 102, 103] (by decide +kernel) (by decide +kernel)
set_option maxRecDepth 20000 in
theorem gX5_advise_X4_pass_ : GoodIn wsX5_advise (wsV RX5 110 RX4 yX4_pass_ wsX4_pass_) := goodIn_app (goodIn_of _ (by decide +kernel)) ggX5_advise_X4_pass_
theorem dX5_advise_0 : decode cX5_advise 0 = .ok (.aload_n 0, 1) := by decide +kernel
theorem dX5_advise_1 : decode cX5_advise 1 = .ok (.iconst 0, 1) := by decide +kernel
theorem dX5_advise_2 : decode cX5_advise 2 = .ok (.putfield 31, 3) := by decide +kernel
theorem dX5_advise_5 : decode cX5_advise 5 = .ok (.aload_n 0, 1) := by decide +kernel
theorem dX5_advise_6 : decode cX5_advise 6 = .ok (.iload_n 1, 1) := by decide +kernel
theorem dX5_advise_7 : decode cX5_advise 7 = .ok (.invokevirtual 58, 3) := by decide +kernel
theorem dX5_advise_10 : decode cX5_advise 10 = .ok (.ifCond .ne 9, 3) := by decide +kernel
theorem dX5_advise_13 : decode cX5_advise 13 = .ok (.aload_n 0, 1) := by decide +kernel
theorem dX5_advise_14 : decode cX5_advise 14 = .ok (.iconst 1, 1) := by decide +kernel
theorem dX5_advise_15 : decode cX5_advise 15 = .ok (.invokevirtual 45, 3) := by decide +kernel
theorem dX5_advise_18 : decode cX5_advise 18 = .ok (.ireturn, 1) := by decide +kernel
theorem dX5_advise_19 : decode cX5_advise 19 = .ok (.iload_n 2, 1) := by decide +kernel
theorem dX5_advise_20 : decode cX5_advise 20 = .ok (.iconst 1, 1) := by decide +kernel
theorem dX5_advise_21 : decode cX5_advise 21 = .ok (.bipush 20, 2) := by decide +kernel
theorem dX5_advise_23 : decode cX5_advise 23 = .ok (.invokestatic 38, 3) := by decide +kernel
theorem dX5_advise_26 : decode cX5_advise 26 = .ok (.ifCond .ne 9, 3) := by decide +kernel
theorem dX5_advise_29 : decode cX5_advise 29 = .ok (.aload_n 0, 1) := by decide +kernel
theorem dX5_advise_30 : decode cX5_advise 30 = .ok (.iconst 2, 1) := by decide +kernel
theorem dX5_advise_31 : decode cX5_advise 31 = .ok (.invokevirtual 45, 3) := by decide +kernel
theorem dX5_advise_34 : decode cX5_advise 34 = .ok (.ireturn, 1) := by decide +kernel
theorem dX5_advise_35 : decode cX5_advise 35 = .ok (.iconst 0, 1) := by decide +kernel
theorem dX5_advise_36 : decode cX5_advise 36 = .ok (.istore_n 3, 1) := by decide +kernel
theorem dX5_advise_37 : decode cX5_advise 37 = .ok (.iconst (-1), 1) := by decide +kernel
theorem dX5_advise_38 : decode cX5_advise 38 = .ok (.istore 4, 2) := by decide +kernel
theorem dX5_advise_40 : decode cX5_advise 40 = .ok (.iconst 1, 1) := by decide +kernel
theorem dX5_advise_41 : decode cX5_advise 41 = .ok (.istore 5, 2) := by decide +kernel
theorem dX5_advise_43 : decode cX5_advise 43 = .ok (.iload 5, 2) := by decide +kernel
theorem dX5_advise_45 : decode cX5_advise 45 = .ok (.bipush 30, 2) := by decide +kernel
theorem dX5_advise_47 : decode cX5_advise 47 = .ok (.if_icmp .gt 71, 3) := by decide +kernel
theorem dX5_advise_50 : decode cX5_advise 50 = .ok (.aload_n 0, 1) := by decide +kernel
theorem dX5_advise_51 : decode cX5_advise 51 = .ok (.getfield 28, 3) := by decide +kernel
theorem dX5_advise_54 : decode cX5_advise 54 = .ok (.aload_n 0, 1) := by decide +kernel
theorem dX5_advise_55 : decode cX5_advise 55 = .ok (.getfield 24, 3) := by decide +kernel
theorem dX5_advise_58 : decode cX5_advise 58 = .ok (.invokevirtual 114, 3) := by decide +kernel
theorem dX5_advise_61 : decode cX5_advise 61 = .ok (.pop, 1) := by decide +kernel
theorem dX5_advise_62 : decode cX5_advise 62 = .ok (.aload_n 0, 1) := by decide +kernel
theorem dX5_advise_63 : decode cX5_advise 63 = .ok (.getfield 28, 3) := by decide +kernel
theorem dX5_advise_66 : decode cX5_advise 66 = .ok (.getfield 49, 3) := by decide +kernel
theorem dX5_advise_69 : decode cX5_advise 69 = .ok (.iload_n 1, 1) := by decide +kernel
theorem dX5_advise_70 : decode cX5_advise 70 = .ok (.iload 5, 2) := by decide +kernel
theorem dX5_advise_72 : decode cX5_advise 72 = .ok (.iastore, 1) := by decide +kernel
theorem dX5_advise_73 : decode cX5_advise 73 = .ok (.aload_n 0, 1) := by decide +kernel
theorem dX5_advise_74 : decode cX5_advise 74 = .ok (.getfield 28, 3) := by decide +kernel
theorem dX5_advise_77 : decode cX5_advise 77 = .ok (.iload_n 2, 1) := by decide +kernel
theorem dX5_advise_78 : decode cX5_advise 78 = .ok (.invokevirtual 110, 3) := by decide +kernel
theorem dX5_advise_81 : decode cX5_advise 81 = .ok (.aload_n 0, 1) := by decide +kernel
theorem dX5_advise_82 : decode cX5_advise 82 = .ok (.getfield 28, 3) := by decide +kernel
theorem dX5_advise_85 : decode cX5_advise 85 = .ok (.getfield 68, 3) := by decide +kernel
theorem dX5_advise_88 : decode cX5_advise 88 = .ok (.iload_n 1, 1) := by decide +kernel
theorem dX5_advise_89 : decode cX5_advise 89 = .ok (.iaload, 1) := by decide +kernel
theorem dX5_advise_90 : decode cX5_advise 90 = .ok (.iload 4, 2) := by decide +kernel
theorem dX5_advise_92 : decode cX5_advise 92 = .ok (.if_icmp .gt 6, 3) := by decide +kernel
theorem dX5_advise_95 : decode cX5_advise 95 = .ok (.goto 17, 3) := by decide +kernel
theorem dX5_advise_98 : decode cX5_advise 98 = .ok (.aload_n 0, 1) := by decide +kernel
theorem dX5_advise_99 : decode cX5_advise 99 = .ok (.getfield 28, 3) := by decide +kernel
theorem dX5_advise_102 : decode cX5_advise 102 = .ok (.getfield 68, 3) := by decide +kernel
theorem dX5_advise_105 : decode cX5_advise 105 = .ok (.iload_n 1, 1) := by decide +kernel
theorem dX5_advise_106 : decode cX5_advise 106 = .ok (.iaload, 1) := by decide +kernel
theorem dX5_advise_107 : decode cX5_advise 107 = .ok (.istore 4, 2) := by decide +kernel
theorem dX5_advise_109 : decode cX5_advise 109 = .ok (.iload 5, 2) := by decide +kernel
theorem dX5_advise_111 : decode cX5_advise 111 = .ok (.istore_n 3, 1) := by decide +kernel
theorem dX5_advise_112 : decode cX5_advise 112 = .ok (.iinc 5 1, 3) := by decide +kernel
theorem dX5_advise_115 : decode cX5_advise 115 = .ok (.goto (-72), 3) := by decide +kernel
theorem dX5_advise_118 : decode cX5_advise 118 = .ok (.iload_n 3, 1) := by decide +kernel
theorem dX5_advise_119 : decode cX5_advise 119 = .ok (.ireturn, 1) := by decide +kernel
set_option maxRecDepth 20000 in
theorem ggX5_mean_X4_isHeld : GoodIn wsX5_mean wsX4_isHeld := goodIn_r _ [8, 9, 23, 24, 25, 26, 27, 28, 29, 30, 31, 32, 33, 34, 35, 36, 37, 38] (by decide +kernel) (by decide +kernel)
set_option maxRecDepth 20000 in
theorem gX5_mean_X4_isHeld : GoodIn wsX5_mean (wsV RX5 62 RX4 yX4_isHeld wsX4_isHeld) := goodIn_app (goodIn_of _ (by decide +kernel)) ggX5_mean_X4_isHeld
set_option maxRecDepth 20000 in
theorem ggX5_mean_X4_held : GoodIn wsX5_mean wsX4_held := goodIn_r _ [13, 14, 15, 5, 6, 7, 8, 9, 23, 24, 25, 26, 27, 28, 29, 30, 31, 32, 33, 34, 35, 36, 37, 38, 16, 17, 18, 19, 20, 21, 22] (by decide +kernel) (by decide +kernel)
set_option maxRecDepth 20000 in
theorem gX5_mean_X4_held : GoodIn wsX5_mean (wsV RX5 129 RX4 yX4_held wsX4_held) := goodIn_app (goodIn_of _ (by decide +kernel)) ggX5_mean_X4_held
theorem dX5_mean_0 : decode cX5_mean 0 = .ok (.aload_n 0, 1) := by decide +kernel
theorem dX5_mean_1 : decode cX5_mean 1 = .ok (.iconst 0, 1) := by decide +kernel
theorem dX5_mean_2 : decode cX5_mean 2 = .ok (.putfield 31, 3) := by decide +kernel
theorem dX5_mean_5 : decode cX5_mean 5 = .ok (.iconst 0, 1) := by decide +kernel
theorem dX5_mean_6 : decode cX5_mean 6 = .ok (.istore_n 1, 1) := by decide +kernel
theorem dX5_mean_7 : decode cX5_mean 7 = .ok (.iconst 0, 1) := by decide +kernel
theorem dX5_mean_8 : decode cX5_mean 8 = .ok (.istore_n 2, 1) := by decide +kernel
theorem dX5_mean_9 : decode cX5_mean 9 = .ok (.iload_n 2, 1) := by decide +kernel
theorem dX5_mean_10 : decode cX5_mean 10 = .ok (.aload_n 0, 1) := by decide +kernel
theorem dX5_mean_11 : decode cX5_mean 11 = .ok (.getfield 35, 3) := by decide +kernel
theorem dX5_mean_14 : decode cX5_mean 14 = .ok (.if_icmp .ge 36, 3) := by decide +kernel
theorem dX5_mean_17 : decode cX5_mean 17 = .ok (.iload_n 1, 1) := by decide +kernel
theorem dX5_mean_18 : decode cX5_mean 18 = .ok (.aload_n 0, 1) := by decide +kernel
theorem dX5_mean_19 : decode cX5_mean 19 = .ok (.getfield 24, 3) := by decide +kernel
theorem dX5_mean_22 : decode cX5_mean 22 = .ok (.iload_n 2, 1) := by decide +kernel
theorem dX5_mean_23 : decode cX5_mean 23 = .ok (.invokevirtual 62, 3) := by decide +kernel
theorem dX5_mean_26 : decode cX5_mean 26 = .ok (.ifCond .eq 15, 3) := by decide +kernel
theorem dX5_mean_29 : decode cX5_mean 29 = .ok (.aload_n 0, 1) := by decide +kernel
theorem dX5_mean_30 : decode cX5_mean 30 = .ok (.getfield 24, 3) := by decide +kernel
theorem dX5_mean_33 : decode cX5_mean 33 = .ok (.getfield 52, 3) := by decide +kernel
theorem dX5_mean_36 : decode cX5_mean 36 = .ok (.iload_n 2, 1) := by decide +kernel
theorem dX5_mean_37 : decode cX5_mean 37 = .ok (.iaload, 1) := by decide +kernel
theorem dX5_mean_38 : decode cX5_mean 38 = .ok (.goto 4, 3) := by decide +kernel
theorem dX5_mean_41 : decode cX5_mean 41 = .ok (.iconst 0, 1) := by decide +kernel
theorem dX5_mean_42 : decode cX5_mean 42 = .ok (.iadd, 1) := by decide +kernel
theorem dX5_mean_43 : decode cX5_mean 43 = .ok (.istore_n 1, 1) := by decide +kernel
theorem dX5_mean_44 : decode cX5_mean 44 = .ok (.iinc 2 1, 3) := by decide +kernel
theorem dX5_mean_47 : decode cX5_mean 47 = .ok (.goto (-38), 3) := by decide +kernel
theorem dX5_mean_50 : decode cX5_mean 50 = .ok (.aload_n 0, 1) := by decide +kernel
theorem dX5_mean_51 : decode cX5_mean 51 = .ok (.getfield 24, 3) := by decide +kernel
theorem dX5_mean_54 : decode cX5_mean 54 = .ok (.invokevirtual 129, 3) := by decide +kernel
theorem dX5_mean_57 : decode cX5_mean 57 = .ok (.ifCond .ne 7, 3) := by decide +kernel
theorem dX5_mean_60 : decode cX5_mean 60 = .ok (.dconst 0, 1) := by decide +kernel
theorem dX5_mean_61 : decode cX5_mean 61 = .ok (.goto 14, 3) := by decide +kernel
theorem dX5_mean_64 : decode cX5_mean 64 = .ok (.iload_n 1, 1) := by decide +kernel
theorem dX5_mean_65 : decode cX5_mean 65 = .ok (.i2d, 1) := by decide +kernel
theorem dX5_mean_66 : decode cX5_mean 66 = .ok (.aload_n 0, 1) := by decide +kernel
theorem dX5_mean_67 : decode cX5_mean 67 = .ok (.getfield 24, 3) := by decide +kernel
theorem dX5_mean_70 : decode cX5_mean 70 = .ok (.invokevirtual 129, 3) := by decide +kernel
theorem dX5_mean_73 : decode cX5_mean 73 = .ok (.i2d, 1) := by decide +kernel
theorem dX5_mean_74 : decode cX5_mean 74 = .ok (.ddiv, 1) := by decide +kernel
theorem dX5_mean_75 : decode cX5_mean 75 = .ok (.dreturn, 1) := by decide +kernel
set_option maxRecDepth 20000 in
theorem ggX5_digest_X4_counted : GoodIn wsX5_digest wsX4_counted := goodIn_r _ [11, 12, 13, 14, 15, 16, 17, 18, 19, 20, 21, 10, 22, 23, 24, 25, 26, 27, 28, 29, 30, 31, 32, 33, 34, 35, 36, 37, 38, 39, 40, 69, 70, 71, 72, 73, 74, 75, 76, 77, 78, 79, 80, 81, 82, 83, 84, 62, 63, 64, 65, 66, 67, 68] (by decide +kernel) (by decide +kernel)
set_option maxRecDepth 20000 in
theorem gX5_digest_X4_counted : GoodIn wsX5_digest (wsV RX5 104 RX4 yX4_counted wsX4_counted) := goodIn_app (goodIn_of _ (by decide +kernel)) ggX5_digest_X4_counted
set_option maxRecDepth 20000 in
theorem ggX5_digest_X5_weirTold : GoodIn wsX5_digest wsX5_weirTold := goodIn_r _ [45, 12, 46, 4, 47, 62, 63, 64, 65, 66, 67, 68, 69, 70, 71, 72, 73, 74, 75, 76, 77, 78, 79, 80, 81, 82, 83, 84] (by decide +kernel) (by decide +kernel)
set_option maxRecDepth 20000 in
theorem gX5_digest_X5_weirTold : GoodIn wsX5_digest (wsV RX5 87 RX5 yX5_weirTold wsX5_weirTold) := goodIn_app (goodIn_of _ (by decide +kernel)) ggX5_digest_X5_weirTold
set_option maxRecDepth 20000 in
theorem ggX5_digest_X5_bargeTold : GoodIn wsX5_digest wsX5_bargeTold := goodIn_r _ [51, 4, 52, 53, 54, 44, 55, 6, 46, 56, 57, 58, 10, 59, 60, 61, 31, 32, 33, 34, 35, 62, 63, 64, 65, 66, 67, 68, 69, 70, 71, 72, 73, 74, 75, 76, 77, 78, 79, 80, 81, 82, 83, 84] (by decide +kernel) (by decide +kernel)
set_option maxRecDepth 20000 in
theorem gX5_digest_X5_bargeTold : GoodIn wsX5_digest (wsV RX5 101 RX5 yX5_bargeTold wsX5_bargeTold) := goodIn_app (goodIn_of _ (by decide +kernel)) ggX5_digest_X5_bargeTold
theorem dX5_digest_0 : decode cX5_digest 0 = .ok (.aload_n 0, 1) := by decide +kernel
theorem dX5_digest_1 : decode cX5_digest 1 = .ok (.iconst 0, 1) := by decide +kernel
theorem dX5_digest_2 : decode cX5_digest 2 = .ok (.putfield 31, 3) := by decide +kernel
theorem dX5_digest_5 : decode cX5_digest 5 = .ok (.ldc2_w 132, 3) := by decide +kernel
theorem dX5_digest_8 : decode cX5_digest 8 = .ok (.lstore_n 1, 1) := by decide +kernel
theorem dX5_digest_9 : decode cX5_digest 9 = .ok (.iconst 0, 1) := by decide +kernel
theorem dX5_digest_10 : decode cX5_digest 10 = .ok (.istore_n 3, 1) := by decide +kernel
theorem dX5_digest_11 : decode cX5_digest 11 = .ok (.iload_n 3, 1) := by decide +kernel
theorem dX5_digest_12 : decode cX5_digest 12 = .ok (.bipush 9, 2) := by decide +kernel
theorem dX5_digest_14 : decode cX5_digest 14 = .ok (.if_icmp .gt 25, 3) := by decide +kernel
theorem dX5_digest_17 : decode cX5_digest 17 = .ok (.lload_n 1, 1) := by decide +kernel
theorem dX5_digest_18 : decode cX5_digest 18 = .ok (.ldc2_w 134, 3) := by decide +kernel
theorem dX5_digest_21 : decode cX5_digest 21 = .ok (.lmul, 1) := by decide +kernel
theorem dX5_digest_22 : decode cX5_digest 22 = .ok (.aload_n 0, 1) := by decide +kernel
theorem dX5_digest_23 : decode cX5_digest 23 = .ok (.getfield 24, 3) := by decide +kernel
theorem dX5_digest_26 : decode cX5_digest 26 = .ok (.iload_n 3, 1) := by decide +kernel
theorem dX5_digest_27 : decode cX5_digest 27 = .ok (.invokevirtual 104, 3) := by decide +kernel
theorem dX5_digest_30 : decode cX5_digest 30 = .ok (.i2l, 1) := by decide +kernel
theorem dX5_digest_31 : decode cX5_digest 31 = .ok (.ladd, 1) := by decide +kernel
theorem dX5_digest_32 : decode cX5_digest 32 = .ok (.lstore_n 1, 1) := by decide +kernel
theorem dX5_digest_33 : decode cX5_digest 33 = .ok (.iinc 3 1, 3) := by decide +kernel
theorem dX5_digest_36 : decode cX5_digest 36 = .ok (.goto (-25), 3) := by decide +kernel
theorem dX5_digest_39 : decode cX5_digest 39 = .ok (.aload_n 0, 1) := by decide +kernel
theorem dX5_digest_40 : decode cX5_digest 40 = .ok (.getfield 7, 3) := by decide +kernel
theorem dX5_digest_43 : decode cX5_digest 43 = .ok (.astore_n 3, 1) := by decide +kernel
theorem dX5_digest_44 : decode cX5_digest 44 = .ok (.aload_n 3, 1) := by decide +kernel
theorem dX5_digest_45 : decode cX5_digest 45 = .ok (.arraylength, 1) := by decide +kernel
theorem dX5_digest_46 : decode cX5_digest 46 = .ok (.istore 4, 2) := by decide +kernel
theorem dX5_digest_48 : decode cX5_digest 48 = .ok (.iconst 0, 1) := by decide +kernel
theorem dX5_digest_49 : decode cX5_digest 49 = .ok (.istore 5, 2) := by decide +kernel
theorem dX5_digest_51 : decode cX5_digest 51 = .ok (.iload 5, 2) := by decide +kernel
theorem dX5_digest_53 : decode cX5_digest 53 = .ok (.iload 4, 2) := by decide +kernel
theorem dX5_digest_55 : decode cX5_digest 55 = .ok (.if_icmp .ge 25, 3) := by decide +kernel
theorem dX5_digest_58 : decode cX5_digest 58 = .ok (.aload_n 3, 1) := by decide +kernel
theorem dX5_digest_59 : decode cX5_digest 59 = .ok (.iload 5, 2) := by decide +kernel
theorem dX5_digest_61 : decode cX5_digest 61 = .ok (.iaload, 1) := by decide +kernel
theorem dX5_digest_62 : decode cX5_digest 62 = .ok (.istore 6, 2) := by decide +kernel
theorem dX5_digest_64 : decode cX5_digest 64 = .ok (.lload_n 1, 1) := by decide +kernel
theorem dX5_digest_65 : decode cX5_digest 65 = .ok (.ldc2_w 134, 3) := by decide +kernel
theorem dX5_digest_68 : decode cX5_digest 68 = .ok (.lmul, 1) := by decide +kernel
theorem dX5_digest_69 : decode cX5_digest 69 = .ok (.iload 6, 2) := by decide +kernel
theorem dX5_digest_71 : decode cX5_digest 71 = .ok (.i2l, 1) := by decide +kernel
theorem dX5_digest_72 : decode cX5_digest 72 = .ok (.ladd, 1) := by decide +kernel
theorem dX5_digest_73 : decode cX5_digest 73 = .ok (.lstore_n 1, 1) := by decide +kernel
theorem dX5_digest_74 : decode cX5_digest 74 = .ok (.iinc 5 1, 3) := by decide +kernel
theorem dX5_digest_77 : decode cX5_digest 77 = .ok (.goto (-26), 3) := by decide +kernel
theorem dX5_digest_80 : decode cX5_digest 80 = .ok (.iconst 0, 1) := by decide +kernel
theorem dX5_digest_81 : decode cX5_digest 81 = .ok (.istore_n 3, 1) := by decide +kernel
theorem dX5_digest_82 : decode cX5_digest 82 = .ok (.iload_n 3, 1) := by decide +kernel
theorem dX5_digest_83 : decode cX5_digest 83 = .ok (.aload_n 0, 1) := by decide +kernel
theorem dX5_digest_84 : decode cX5_digest 84 = .ok (.getfield 35, 3) := by decide +kernel
theorem dX5_digest_87 : decode cX5_digest 87 = .ok (.if_icmp .ge 40, 3) := by decide +kernel
theorem dX5_digest_90 : decode cX5_digest 90 = .ok (.iconst 0, 1) := by decide +kernel
theorem dX5_digest_91 : decode cX5_digest 91 = .ok (.istore 4, 2) := by decide +kernel
theorem dX5_digest_93 : decode cX5_digest 93 = .ok (.iload 4, 2) := by decide +kernel
theorem dX5_digest_95 : decode cX5_digest 95 = .ok (.bipush 7, 2) := by decide +kernel
theorem dX5_digest_97 : decode cX5_digest 97 = .ok (.if_icmp .gt 24, 3) := by decide +kernel
theorem dX5_digest_100 : decode cX5_digest 100 = .ok (.lload_n 1, 1) := by decide +kernel
theorem dX5_digest_101 : decode cX5_digest 101 = .ok (.ldc2_w 134, 3) := by decide +kernel
theorem dX5_digest_104 : decode cX5_digest 104 = .ok (.lmul, 1) := by decide +kernel
theorem dX5_digest_105 : decode cX5_digest 105 = .ok (.aload_n 0, 1) := by decide +kernel
theorem dX5_digest_106 : decode cX5_digest 106 = .ok (.iload_n 3, 1) := by decide +kernel
theorem dX5_digest_107 : decode cX5_digest 107 = .ok (.iload 4, 2) := by decide +kernel
theorem dX5_digest_109 : decode cX5_digest 109 = .ok (.invokevirtual 87, 3) := by decide +kernel
theorem dX5_digest_112 : decode cX5_digest 112 = .ok (.i2l, 1) := by decide +kernel
theorem dX5_digest_113 : decode cX5_digest 113 = .ok (.ladd, 1) := by decide +kernel
theorem dX5_digest_114 : decode cX5_digest 114 = .ok (.lstore_n 1, 1) := by decide +kernel
theorem dX5_digest_115 : decode cX5_digest 115 = .ok (.iinc 4 1, 3) := by decide +kernel
theorem dX5_digest_118 : decode cX5_digest 118 = .ok (.goto (-25), 3) := by decide +kernel
theorem dX5_digest_121 : decode cX5_digest 121 = .ok (.iinc 3 1, 3) := by decide +kernel
theorem dX5_digest_124 : decode cX5_digest 124 = .ok (.goto (-42), 3) := by decide +kernel
theorem dX5_digest_127 : decode cX5_digest 127 = .ok (.iconst 0, 1) := by decide +kernel
theorem dX5_digest_128 : decode cX5_digest 128 = .ok (.istore_n 3, 1) := by decide +kernel
theorem dX5_digest_129 : decode cX5_digest 129 = .ok (.iload_n 3, 1) := by decide +kernel
theorem dX5_digest_130 : decode cX5_digest 130 = .ok (.aload_n 0, 1) := by decide +kernel
theorem dX5_digest_131 : decode cX5_digest 131 = .ok (.getfield 24, 3) := by decide +kernel
theorem dX5_digest_134 : decode cX5_digest 134 = .ok (.getfield 42, 3) := by decide +kernel
theorem dX5_digest_137 : decode cX5_digest 137 = .ok (.if_icmp .ge 39, 3) := by decide +kernel
theorem dX5_digest_140 : decode cX5_digest 140 = .ok (.iconst 0, 1) := by decide +kernel
theorem dX5_digest_141 : decode cX5_digest 141 = .ok (.istore 4, 2) := by decide +kernel
theorem dX5_digest_143 : decode cX5_digest 143 = .ok (.iload 4, 2) := by decide +kernel
theorem dX5_digest_145 : decode cX5_digest 145 = .ok (.iconst 3, 1) := by decide +kernel
theorem dX5_digest_146 : decode cX5_digest 146 = .ok (.if_icmp .gt 24, 3) := by decide +kernel
theorem dX5_digest_149 : decode cX5_digest 149 = .ok (.lload_n 1, 1) := by decide +kernel
theorem dX5_digest_150 : decode cX5_digest 150 = .ok (.ldc2_w 134, 3) := by decide +kernel
theorem dX5_digest_153 : decode cX5_digest 153 = .ok (.lmul, 1) := by decide +kernel
theorem dX5_digest_154 : decode cX5_digest 154 = .ok (.aload_n 0, 1) := by decide +kernel
theorem dX5_digest_155 : decode cX5_digest 155 = .ok (.iload_n 3, 1) := by decide +kernel
theorem dX5_digest_156 : decode cX5_digest 156 = .ok (.iload 4, 2) := by decide +kernel
theorem dX5_digest_158 : decode cX5_digest 158 = .ok (.invokevirtual 101, 3) := by decide +kernel
theorem dX5_digest_161 : decode cX5_digest 161 = .ok (.i2l, 1) := by decide +kernel
theorem dX5_digest_162 : decode cX5_digest 162 = .ok (.ladd, 1) := by decide +kernel
theorem dX5_digest_163 : decode cX5_digest 163 = .ok (.lstore_n 1, 1) := by decide +kernel
theorem dX5_digest_164 : decode cX5_digest 164 = .ok (.iinc 4 1, 3) := by decide +kernel
theorem dX5_digest_167 : decode cX5_digest 167 = .ok (.goto (-24), 3) := by decide +kernel
theorem dX5_digest_170 : decode cX5_digest 170 = .ok (.iinc 3 1, 3) := by decide +kernel
theorem dX5_digest_173 : decode cX5_digest 173 = .ok (.goto (-44), 3) := by decide +kernel
theorem dX5_digest_176 : decode cX5_digest 176 = .ok (.lload_n 1, 1) := by decide +kernel
theorem dX5_digest_177 : decode cX5_digest 177 = .ok (.lreturn, 1) := by decide +kernel
theorem dJ9_floorMod_7cf53_0 : decode cJ9_floorMod_7cf53 0 = .ok (.iload_n 0, 1) := by decide +kernel
theorem dJ9_floorMod_7cf53_1 : decode cJ9_floorMod_7cf53 1 = .ok (.iload_n 1, 1) := by decide +kernel
theorem dJ9_floorMod_7cf53_2 : decode cJ9_floorMod_7cf53 2 = .ok (.irem, 1) := by decide +kernel
theorem dJ9_floorMod_7cf53_3 : decode cJ9_floorMod_7cf53 3 = .ok (.istore_n 2, 1) := by decide +kernel
theorem dJ9_floorMod_7cf53_4 : decode cJ9_floorMod_7cf53 4 = .ok (.iload_n 0, 1) := by decide +kernel
theorem dJ9_floorMod_7cf53_5 : decode cJ9_floorMod_7cf53 5 = .ok (.iload_n 1, 1) := by decide +kernel
theorem dJ9_floorMod_7cf53_6 : decode cJ9_floorMod_7cf53 6 = .ok (.ixor, 1) := by decide +kernel
theorem dJ9_floorMod_7cf53_7 : decode cJ9_floorMod_7cf53 7 = .ok (.ifCond .ge 11, 3) := by decide +kernel
theorem dJ9_floorMod_7cf53_10 : decode cJ9_floorMod_7cf53 10 = .ok (.iload_n 2, 1) := by decide +kernel
theorem dJ9_floorMod_7cf53_11 : decode cJ9_floorMod_7cf53 11 = .ok (.ifCond .eq 7, 3) := by decide +kernel
theorem dJ9_floorMod_7cf53_14 : decode cJ9_floorMod_7cf53 14 = .ok (.iload_n 2, 1) := by decide +kernel
theorem dJ9_floorMod_7cf53_15 : decode cJ9_floorMod_7cf53 15 = .ok (.iload_n 1, 1) := by decide +kernel
theorem dJ9_floorMod_7cf53_16 : decode cJ9_floorMod_7cf53 16 = .ok (.iadd, 1) := by decide +kernel
theorem dJ9_floorMod_7cf53_17 : decode cJ9_floorMod_7cf53 17 = .ok (.ireturn, 1) := by decide +kernel
theorem dJ9_floorMod_7cf53_18 : decode cJ9_floorMod_7cf53 18 = .ok (.iload_n 2, 1) := by decide +kernel
theorem dJ9_floorMod_7cf53_19 : decode cJ9_floorMod_7cf53 19 = .ok (.ireturn, 1) := by decide +kernel
theorem dJ9_max_7cf53_0 : decode cJ9_max_7cf53 0 = .ok (.iload_n 0, 1) := by decide +kernel
theorem dJ9_max_7cf53_1 : decode cJ9_max_7cf53 1 = .ok (.iload_n 1, 1) := by decide +kernel
theorem dJ9_max_7cf53_2 : decode cJ9_max_7cf53 2 = .ok (.if_icmp .lt 7, 3) := by decide +kernel
theorem dJ9_max_7cf53_5 : decode cJ9_max_7cf53 5 = .ok (.iload_n 0, 1) := by decide +kernel
theorem dJ9_max_7cf53_6 : decode cJ9_max_7cf53 6 = .ok (.goto 4, 3) := by decide +kernel
theorem dJ9_max_7cf53_9 : decode cJ9_max_7cf53 9 = .ok (.iload_n 1, 1) := by decide +kernel
theorem dJ9_max_7cf53_10 : decode cJ9_max_7cf53 10 = .ok (.ireturn, 1) := by decide +kernel
theorem dJ9_min_7cf53_0 : decode cJ9_min_7cf53 0 = .ok (.iload_n 0, 1) := by decide +kernel
theorem dJ9_min_7cf53_1 : decode cJ9_min_7cf53 1 = .ok (.iload_n 1, 1) := by decide +kernel
theorem dJ9_min_7cf53_2 : decode cJ9_min_7cf53 2 = .ok (.if_icmp .gt 7, 3) := by decide +kernel
theorem dJ9_min_7cf53_5 : decode cJ9_min_7cf53 5 = .ok (.iload_n 0, 1) := by decide +kernel
theorem dJ9_min_7cf53_6 : decode cJ9_min_7cf53 6 = .ok (.goto 4, 3) := by decide +kernel
theorem dJ9_min_7cf53_9 : decode cJ9_min_7cf53 9 = .ok (.iload_n 1, 1) := by decide +kernel
theorem dJ9_min_7cf53_10 : decode cJ9_min_7cf53 10 = .ok (.ireturn, 1) := by decide +kernel
set_option maxRecDepth 20000 in
theorem ggL_weir_X3_weir : GoodIn wsL_weir wsX3_weir := goodIn_ca (goodIn_ca (goodIn_r _ [7, 8, 9, 10, 11, 12, 13, 14, 15, 6, 16, 17, 18, 19, 20, 21, 22, 23, 24, 25, 26, 27, 28, 29, 30, 31, 32, 33, 34, 35, 36, 37, 38, 39, 40, 41, 42, 43, 44, 45, 46, 47, 48, 49, 50, 51, 52, 53, 54, 55, 56, 57, 58, 59, 60, 61, 62, 63, 64, 65, 66, 67, 68, 69, 70] (by decide +kernel) (by decide +kernel)) (goodIn_sub (fun _ h => List.mem_cons_of_mem _ (List.mem_append_left _ (List.mem_append_right _ h))) (by decide +kernel))) (goodIn_sub (fun _ h => List.mem_cons_of_mem _ (List.mem_append_right _ h)) (by decide +kernel))
set_option maxRecDepth 20000 in
theorem gL_weir_X3_weir : GoodIn wsL_weir (wsV RL 7 RX3 yX3_weir wsX3_weir) := goodIn_app (goodIn_of _ (by decide +kernel)) ggL_weir_X3_weir
theorem dL_weir_0 : decode cL_weir 0 = .ok (.aload 4, 2) := by decide +kernel
theorem dL_weir_2 : decode cL_weir 2 = .ok (.iconst 0, 1) := by decide +kernel
theorem dL_weir_3 : decode cL_weir 3 = .ok (.aload_n 0, 1) := by decide +kernel
theorem dL_weir_4 : decode cL_weir 4 = .ok (.iload_n 1, 1) := by decide +kernel
theorem dL_weir_5 : decode cL_weir 5 = .ok (.iload_n 2, 1) := by decide +kernel
theorem dL_weir_6 : decode cL_weir 6 = .ok (.iload_n 3, 1) := by decide +kernel
theorem dL_weir_7 : decode cL_weir 7 = .ok (.invokevirtual 7, 3) := by decide +kernel
theorem dL_weir_10 : decode cL_weir 10 = .ok (.i2l, 1) := by decide +kernel
theorem dL_weir_11 : decode cL_weir 11 = .ok (.lastore, 1) := by decide +kernel
theorem dL_weir_12 : decode cL_weir 12 = .ok (.goto 11, 3) := by decide +kernel
theorem dL_weir_15 : decode cL_weir 15 = .ok (.astore 5, 2) := by decide +kernel
theorem dL_weir_17 : decode cL_weir 17 = .ok (.iconst 1, 1) := by decide +kernel
theorem dL_weir_18 : decode cL_weir 18 = .ok (.ireturn, 1) := by decide +kernel
theorem dL_weir_19 : decode cL_weir 19 = .ok (.astore 5, 2) := by decide +kernel
theorem dL_weir_21 : decode cL_weir 21 = .ok (.iconst 2, 1) := by decide +kernel
theorem dL_weir_22 : decode cL_weir 22 = .ok (.ireturn, 1) := by decide +kernel
theorem dL_weir_23 : decode cL_weir 23 = .ok (.iconst 0, 1) := by decide +kernel
theorem dL_weir_24 : decode cL_weir 24 = .ok (.ireturn, 1) := by decide +kernel
set_option maxRecDepth 20000 in
theorem ggL_gate_X3_gate : GoodIn wsL_gate wsX3_gate := goodIn_ca (goodIn_ca (goodIn_r _ [7, 8, 9, 10, 11, 12, 13, 14, 15, 16, 17, 18, 19, 20, 21, 22, 23, 24, 25, 26, 27, 28, 29, 30, 31, 32, 33, 34, 35, 36, 37, 38, 39, 40, 41, 42, 43, 44, 45, 46] (by decide +kernel) (by decide +kernel)) (goodIn_sub (fun _ h => List.mem_cons_of_mem _ (List.mem_append_left _ (List.mem_append_right _ h))) (by decide +kernel))) (goodIn_sub (fun _ h => List.mem_cons_of_mem _ (List.mem_append_right _ h)) (by decide +kernel))
set_option maxRecDepth 20000 in
theorem gL_gate_X3_gate : GoodIn wsL_gate (wsV RL 17 RX3 yX3_gate wsX3_gate) := goodIn_app (goodIn_of _ (by decide +kernel)) ggL_gate_X3_gate
theorem dL_gate_0 : decode cL_gate 0 = .ok (.aload_n 2, 1) := by decide +kernel
theorem dL_gate_1 : decode cL_gate 1 = .ok (.iconst 0, 1) := by decide +kernel
theorem dL_gate_2 : decode cL_gate 2 = .ok (.aload_n 0, 1) := by decide +kernel
theorem dL_gate_3 : decode cL_gate 3 = .ok (.iload_n 1, 1) := by decide +kernel
theorem dL_gate_4 : decode cL_gate 4 = .ok (.invokevirtual 17, 3) := by decide +kernel
theorem dL_gate_7 : decode cL_gate 7 = .ok (.ifCond .eq 7, 3) := by decide +kernel
theorem dL_gate_10 : decode cL_gate 10 = .ok (.lconst 1, 1) := by decide +kernel
theorem dL_gate_11 : decode cL_gate 11 = .ok (.goto 4, 3) := by decide +kernel
theorem dL_gate_14 : decode cL_gate 14 = .ok (.lconst 0, 1) := by decide +kernel
theorem dL_gate_15 : decode cL_gate 15 = .ok (.lastore, 1) := by decide +kernel
theorem dL_gate_16 : decode cL_gate 16 = .ok (.goto 9, 3) := by decide +kernel
theorem dL_gate_19 : decode cL_gate 19 = .ok (.astore_n 3, 1) := by decide +kernel
theorem dL_gate_20 : decode cL_gate 20 = .ok (.iconst 1, 1) := by decide +kernel
theorem dL_gate_21 : decode cL_gate 21 = .ok (.ireturn, 1) := by decide +kernel
theorem dL_gate_22 : decode cL_gate 22 = .ok (.astore_n 3, 1) := by decide +kernel
theorem dL_gate_23 : decode cL_gate 23 = .ok (.iconst 2, 1) := by decide +kernel
theorem dL_gate_24 : decode cL_gate 24 = .ok (.ireturn, 1) := by decide +kernel
theorem dL_gate_25 : decode cL_gate 25 = .ok (.iconst 0, 1) := by decide +kernel
theorem dL_gate_26 : decode cL_gate 26 = .ok (.ireturn, 1) := by decide +kernel
set_option maxRecDepth 20000 in
theorem ggL_mend_X3_mend : GoodIn wsL_mend wsX3_mend := goodIn_ca (goodIn_ca (goodIn_ca (goodIn_r _ [8, 9, 10, 11, 12, 13, 14, 15, 16, 17, 18, 19, 20, 21, 22, 23, 24, 25, 26, 7, 27, 28, 29, 30, 31, 32, 33, 34, 35, 36, 37, 38, 39, 40, 41, 42, 43, 44, 45, 46, 47, 48, 49, 50, 51, 52, 53] (by decide +kernel) (by decide +kernel)) (goodIn_sub (fun _ h => List.mem_cons_of_mem _ (List.mem_append_left _ (List.mem_append_left _ (List.mem_append_right _ h)))) (by decide +kernel))) (goodIn_sub (fun _ h => List.mem_cons_of_mem _ (List.mem_append_left _ (List.mem_append_right _ h))) (by decide +kernel))) (goodIn_sub (fun _ h => List.mem_cons_of_mem _ (List.mem_append_right _ h)) (by decide +kernel))
set_option maxRecDepth 20000 in
theorem gL_mend_X3_mend : GoodIn wsL_mend (wsV RL 23 RX3 yX3_mend wsX3_mend) := goodIn_app (goodIn_of _ (by decide +kernel)) ggL_mend_X3_mend
theorem dL_mend_0 : decode cL_mend 0 = .ok (.aload_n 3, 1) := by decide +kernel
theorem dL_mend_1 : decode cL_mend 1 = .ok (.iconst 0, 1) := by decide +kernel
theorem dL_mend_2 : decode cL_mend 2 = .ok (.aload_n 0, 1) := by decide +kernel
theorem dL_mend_3 : decode cL_mend 3 = .ok (.iload_n 1, 1) := by decide +kernel
theorem dL_mend_4 : decode cL_mend 4 = .ok (.iload_n 2, 1) := by decide +kernel
theorem dL_mend_5 : decode cL_mend 5 = .ok (.invokevirtual 23, 3) := by decide +kernel
theorem dL_mend_8 : decode cL_mend 8 = .ok (.i2l, 1) := by decide +kernel
theorem dL_mend_9 : decode cL_mend 9 = .ok (.lastore, 1) := by decide +kernel
theorem dL_mend_10 : decode cL_mend 10 = .ok (.goto 15, 3) := by decide +kernel
theorem dL_mend_13 : decode cL_mend 13 = .ok (.astore 4, 2) := by decide +kernel
theorem dL_mend_15 : decode cL_mend 15 = .ok (.iconst 1, 1) := by decide +kernel
theorem dL_mend_16 : decode cL_mend 16 = .ok (.ireturn, 1) := by decide +kernel
theorem dL_mend_17 : decode cL_mend 17 = .ok (.astore 4, 2) := by decide +kernel
theorem dL_mend_19 : decode cL_mend 19 = .ok (.iconst 2, 1) := by decide +kernel
theorem dL_mend_20 : decode cL_mend 20 = .ok (.ireturn, 1) := by decide +kernel
theorem dL_mend_21 : decode cL_mend 21 = .ok (.astore 4, 2) := by decide +kernel
theorem dL_mend_23 : decode cL_mend 23 = .ok (.iconst 3, 1) := by decide +kernel
theorem dL_mend_24 : decode cL_mend 24 = .ok (.ireturn, 1) := by decide +kernel
theorem dL_mend_25 : decode cL_mend 25 = .ok (.iconst 0, 1) := by decide +kernel
theorem dL_mend_26 : decode cL_mend 26 = .ok (.ireturn, 1) := by decide +kernel
set_option maxRecDepth 20000 in
theorem ggL_drive_X3_drive : GoodIn wsL_drive wsX3_drive := goodIn_ca (goodIn_ca (goodIn_ca (goodIn_r _ [8, 9, 10, 11, 12, 13, 14, 15, 16, 17, 18, 19, 20, 21, 22, 23, 24, 25, 26, 7, 27, 28, 29, 30, 31, 32, 33, 34, 35, 36, 37, 38, 39, 40, 41, 42, 43, 44, 45, 46, 47, 48, 49, 50, 51, 52, 53] (by decide +kernel) (by decide +kernel)) (goodIn_sub (fun _ h => List.mem_cons_of_mem _ (List.mem_append_left _ (List.mem_append_left _ (List.mem_append_right _ h)))) (by decide +kernel))) (goodIn_sub (fun _ h => List.mem_cons_of_mem _ (List.mem_append_left _ (List.mem_append_right _ h))) (by decide +kernel))) (goodIn_sub (fun _ h => List.mem_cons_of_mem _ (List.mem_append_right _ h)) (by decide +kernel))
set_option maxRecDepth 20000 in
theorem gL_drive_X3_drive : GoodIn wsL_drive (wsV RL 27 RX3 yX3_drive wsX3_drive) := goodIn_app (goodIn_of _ (by decide +kernel)) ggL_drive_X3_drive
theorem dL_drive_0 : decode cL_drive 0 = .ok (.aload_n 3, 1) := by decide +kernel
theorem dL_drive_1 : decode cL_drive 1 = .ok (.iconst 0, 1) := by decide +kernel
theorem dL_drive_2 : decode cL_drive 2 = .ok (.aload_n 0, 1) := by decide +kernel
theorem dL_drive_3 : decode cL_drive 3 = .ok (.iload_n 1, 1) := by decide +kernel
theorem dL_drive_4 : decode cL_drive 4 = .ok (.iload_n 2, 1) := by decide +kernel
theorem dL_drive_5 : decode cL_drive 5 = .ok (.invokevirtual 27, 3) := by decide +kernel
theorem dL_drive_8 : decode cL_drive 8 = .ok (.i2l, 1) := by decide +kernel
theorem dL_drive_9 : decode cL_drive 9 = .ok (.lastore, 1) := by decide +kernel
theorem dL_drive_10 : decode cL_drive 10 = .ok (.goto 15, 3) := by decide +kernel
theorem dL_drive_13 : decode cL_drive 13 = .ok (.astore 4, 2) := by decide +kernel
theorem dL_drive_15 : decode cL_drive 15 = .ok (.iconst 1, 1) := by decide +kernel
theorem dL_drive_16 : decode cL_drive 16 = .ok (.ireturn, 1) := by decide +kernel
theorem dL_drive_17 : decode cL_drive 17 = .ok (.astore 4, 2) := by decide +kernel
theorem dL_drive_19 : decode cL_drive 19 = .ok (.iconst 2, 1) := by decide +kernel
theorem dL_drive_20 : decode cL_drive 20 = .ok (.ireturn, 1) := by decide +kernel
theorem dL_drive_21 : decode cL_drive 21 = .ok (.astore 4, 2) := by decide +kernel
theorem dL_drive_23 : decode cL_drive 23 = .ok (.iconst 3, 1) := by decide +kernel
theorem dL_drive_24 : decode cL_drive 24 = .ok (.ireturn, 1) := by decide +kernel
theorem dL_drive_25 : decode cL_drive 25 = .ok (.iconst 0, 1) := by decide +kernel
theorem dL_drive_26 : decode cL_drive 26 = .ok (.ireturn, 1) := by decide +kernel
set_option maxRecDepth 20000 in
theorem ggL_sell_X3_sell : GoodIn wsL_sell wsX3_sell := goodIn_ca (goodIn_ca (goodIn_r _ [7, 8, 9, 10, 11, 12, 13, 14, 15, 16, 17, 18, 19, 20, 21, 22, 23, 24, 25, 26, 27, 28, 29, 30, 31, 32, 33, 34, 35, 36, 37, 38, 6, 39, 40, 41, 42, 43, 44, 45, 46, 47, 48, 49, 50, 51, 52, 53, 54, 55, 56, 57, 58, 59] (by decide +kernel) (by decide +kernel)) (goodIn_sub (fun _ h => List.mem_cons_of_mem _ (List.mem_append_left _ (List.mem_append_right _ h))) (by decide +kernel))) (goodIn_sub (fun _ h => List.mem_cons_of_mem _ (List.mem_append_right _ h)) (by decide +kernel))
set_option maxRecDepth 20000 in
theorem gL_sell_X3_sell : GoodIn wsL_sell (wsV RL 30 RX3 yX3_sell wsX3_sell) := goodIn_app (goodIn_of _ (by decide +kernel)) ggL_sell_X3_sell
theorem dL_sell_0 : decode cL_sell 0 = .ok (.aload_n 2, 1) := by decide +kernel
theorem dL_sell_1 : decode cL_sell 1 = .ok (.iconst 0, 1) := by decide +kernel
theorem dL_sell_2 : decode cL_sell 2 = .ok (.aload_n 0, 1) := by decide +kernel
theorem dL_sell_3 : decode cL_sell 3 = .ok (.iload_n 1, 1) := by decide +kernel
theorem dL_sell_4 : decode cL_sell 4 = .ok (.invokevirtual 30, 3) := by decide +kernel
theorem dL_sell_7 : decode cL_sell 7 = .ok (.i2l, 1) := by decide +kernel
theorem dL_sell_8 : decode cL_sell 8 = .ok (.lastore, 1) := by decide +kernel
theorem dL_sell_9 : decode cL_sell 9 = .ok (.goto 9, 3) := by decide +kernel
theorem dL_sell_12 : decode cL_sell 12 = .ok (.astore_n 3, 1) := by decide +kernel
theorem dL_sell_13 : decode cL_sell 13 = .ok (.iconst 1, 1) := by decide +kernel
theorem dL_sell_14 : decode cL_sell 14 = .ok (.ireturn, 1) := by decide +kernel
theorem dL_sell_15 : decode cL_sell 15 = .ok (.astore_n 3, 1) := by decide +kernel
theorem dL_sell_16 : decode cL_sell 16 = .ok (.iconst 2, 1) := by decide +kernel
theorem dL_sell_17 : decode cL_sell 17 = .ok (.ireturn, 1) := by decide +kernel
theorem dL_sell_18 : decode cL_sell 18 = .ok (.iconst 0, 1) := by decide +kernel
theorem dL_sell_19 : decode cL_sell 19 = .ok (.ireturn, 1) := by decide +kernel
set_option maxRecDepth 20000 in
theorem ggL_setRun_X3_setRun : GoodIn wsL_setRun wsX3_setRun := goodIn_ca (goodIn_ca (goodIn_r _ [7, 8, 9, 10, 11, 12, 13, 14, 6, 15, 16, 17, 18, 19, 20, 21, 22, 23, 24, 25, 26, 27, 28, 29, 30, 31, 32, 33, 34, 35, 36, 37] (by decide +kernel) (by decide +kernel)) (goodIn_sub (fun _ h => List.mem_cons_of_mem _ (List.mem_append_left _ (List.mem_append_right _ h))) (by decide +kernel))) (goodIn_sub (fun _ h => List.mem_cons_of_mem _ (List.mem_append_right _ h)) (by decide +kernel))
set_option maxRecDepth 20000 in
theorem gL_setRun_X3_setRun : GoodIn wsL_setRun (wsV RL 34 RX3 yX3_setRun wsX3_setRun) := goodIn_app (goodIn_of _ (by decide +kernel)) ggL_setRun_X3_setRun
theorem dL_setRun_0 : decode cL_setRun 0 = .ok (.aload_n 3, 1) := by decide +kernel
theorem dL_setRun_1 : decode cL_setRun 1 = .ok (.iconst 0, 1) := by decide +kernel
theorem dL_setRun_2 : decode cL_setRun 2 = .ok (.aload_n 0, 1) := by decide +kernel
theorem dL_setRun_3 : decode cL_setRun 3 = .ok (.iload_n 1, 1) := by decide +kernel
theorem dL_setRun_4 : decode cL_setRun 4 = .ok (.iload_n 2, 1) := by decide +kernel
theorem dL_setRun_5 : decode cL_setRun 5 = .ok (.invokevirtual 34, 3) := by decide +kernel
theorem dL_setRun_8 : decode cL_setRun 8 = .ok (.i2l, 1) := by decide +kernel
theorem dL_setRun_9 : decode cL_setRun 9 = .ok (.lastore, 1) := by decide +kernel
theorem dL_setRun_10 : decode cL_setRun 10 = .ok (.goto 11, 3) := by decide +kernel
theorem dL_setRun_13 : decode cL_setRun 13 = .ok (.astore 4, 2) := by decide +kernel
theorem dL_setRun_15 : decode cL_setRun 15 = .ok (.iconst 1, 1) := by decide +kernel
theorem dL_setRun_16 : decode cL_setRun 16 = .ok (.ireturn, 1) := by decide +kernel
theorem dL_setRun_17 : decode cL_setRun 17 = .ok (.astore 4, 2) := by decide +kernel
theorem dL_setRun_19 : decode cL_setRun 19 = .ok (.iconst 2, 1) := by decide +kernel
theorem dL_setRun_20 : decode cL_setRun 20 = .ok (.ireturn, 1) := by decide +kernel
theorem dL_setRun_21 : decode cL_setRun 21 = .ok (.iconst 0, 1) := by decide +kernel
theorem dL_setRun_22 : decode cL_setRun 22 = .ok (.ireturn, 1) := by decide +kernel
set_option maxRecDepth 20000 in
theorem ggL_barge_X3_barge : GoodIn wsL_barge wsX3_barge := goodIn_ca (goodIn_ca (goodIn_r _ [7, 8, 9, 10, 11, 12, 13, 14, 15, 6, 16, 17, 18, 19, 20, 21, 22, 23, 24, 25, 26, 27, 28, 29, 30, 31, 32, 33, 34, 35, 36, 37, 38, 39, 40, 41, 42, 43, 44, 45, 46, 47, 48, 49, 50, 51, 52, 53] (by decide +kernel) (by decide +kernel)) (goodIn_sub (fun _ h => List.mem_cons_of_mem _ (List.mem_append_left _ (List.mem_append_right _ h))) (by decide +kernel))) (goodIn_sub (fun _ h => List.mem_cons_of_mem _ (List.mem_append_right _ h)) (by decide +kernel))
set_option maxRecDepth 20000 in
theorem gL_barge_X3_barge : GoodIn wsL_barge (wsV RL 37 RX3 yX3_barge wsX3_barge) := goodIn_app (goodIn_of _ (by decide +kernel)) ggL_barge_X3_barge
theorem dL_barge_0 : decode cL_barge 0 = .ok (.aload_n 2, 1) := by decide +kernel
theorem dL_barge_1 : decode cL_barge 1 = .ok (.iconst 0, 1) := by decide +kernel
theorem dL_barge_2 : decode cL_barge 2 = .ok (.aload_n 0, 1) := by decide +kernel
theorem dL_barge_3 : decode cL_barge 3 = .ok (.iload_n 1, 1) := by decide +kernel
theorem dL_barge_4 : decode cL_barge 4 = .ok (.invokevirtual 37, 3) := by decide +kernel
theorem dL_barge_7 : decode cL_barge 7 = .ok (.i2l, 1) := by decide +kernel
theorem dL_barge_8 : decode cL_barge 8 = .ok (.lastore, 1) := by decide +kernel
theorem dL_barge_9 : decode cL_barge 9 = .ok (.goto 9, 3) := by decide +kernel
theorem dL_barge_12 : decode cL_barge 12 = .ok (.astore_n 3, 1) := by decide +kernel
theorem dL_barge_13 : decode cL_barge 13 = .ok (.iconst 1, 1) := by decide +kernel
theorem dL_barge_14 : decode cL_barge 14 = .ok (.ireturn, 1) := by decide +kernel
theorem dL_barge_15 : decode cL_barge 15 = .ok (.astore_n 3, 1) := by decide +kernel
theorem dL_barge_16 : decode cL_barge 16 = .ok (.iconst 2, 1) := by decide +kernel
theorem dL_barge_17 : decode cL_barge 17 = .ok (.ireturn, 1) := by decide +kernel
theorem dL_barge_18 : decode cL_barge 18 = .ok (.iconst 0, 1) := by decide +kernel
theorem dL_barge_19 : decode cL_barge 19 = .ok (.ireturn, 1) := by decide +kernel
set_option maxRecDepth 20000 in
theorem ggL_about_X3_about : GoodIn wsL_about wsX3_about := goodIn_ca (goodIn_r _ [6, 7, 8, 9, 10, 11, 12, 13, 14, 15, 16, 17, 18, 5, 19, 20, 21, 22, 23, 24, 25, 26, 27, 28, 29, 30, 31, 32, 33, 34, 35, 36, 37, 38, 39, 40, 41, 42, 43, 44, 45, 46, 47, 48, 49, 50, 51, 52] (by decide +kernel) (by decide +kernel)) (goodIn_sub (fun _ h => List.mem_cons_of_mem _ (List.mem_append_right _ h)) (by decide +kernel))
set_option maxRecDepth 20000 in
theorem gL_about_X3_about : GoodIn wsL_about (wsV RL 40 RX3 yX3_about wsX3_about) := goodIn_app (goodIn_of _ (by decide +kernel)) ggL_about_X3_about
theorem dL_about_0 : decode cL_about 0 = .ok (.aload_n 3, 1) := by decide +kernel
theorem dL_about_1 : decode cL_about 1 = .ok (.iconst 0, 1) := by decide +kernel
theorem dL_about_2 : decode cL_about 2 = .ok (.aload_n 0, 1) := by decide +kernel
theorem dL_about_3 : decode cL_about 3 = .ok (.iload_n 1, 1) := by decide +kernel
theorem dL_about_4 : decode cL_about 4 = .ok (.iload_n 2, 1) := by decide +kernel
theorem dL_about_5 : decode cL_about 5 = .ok (.invokevirtual 40, 3) := by decide +kernel
theorem dL_about_8 : decode cL_about 8 = .ok (.i2l, 1) := by decide +kernel
theorem dL_about_9 : decode cL_about 9 = .ok (.lastore, 1) := by decide +kernel
theorem dL_about_10 : decode cL_about 10 = .ok (.goto 7, 3) := by decide +kernel
theorem dL_about_13 : decode cL_about 13 = .ok (.astore 4, 2) := by decide +kernel
theorem dL_about_15 : decode cL_about 15 = .ok (.iconst 1, 1) := by decide +kernel
theorem dL_about_16 : decode cL_about 16 = .ok (.ireturn, 1) := by decide +kernel
theorem dL_about_17 : decode cL_about 17 = .ok (.iconst 0, 1) := by decide +kernel
theorem dL_about_18 : decode cL_about 18 = .ok (.ireturn, 1) := by decide +kernel
set_option maxRecDepth 20000 in
theorem ggL_told_X3_told : GoodIn wsL_told wsX3_told := goodIn_ca (goodIn_r _ [6, 7, 8, 9, 10, 11, 12, 13, 14, 15, 16, 17, 18, 5, 19, 20, 21, 22, 23, 24, 25, 26, 27, 28, 29, 30, 31, 32, 33, 34, 35, 36, 37, 38, 39, 40, 41, 42, 43, 44, 45, 46, 47, 48, 49, 50, 51, 52, 53, 54, 55, 56, 57, 58, 59, 60, 61, 62, 63, 64, 65, 66, 67, 68, 69, 70, 71, 72, 73] (by decide +kernel) (by decide +kernel)) (goodIn_sub (fun _ h => List.mem_cons_of_mem _ (List.mem_append_right _ h)) (by decide +kernel))
set_option maxRecDepth 20000 in
theorem gL_told_X3_told : GoodIn wsL_told (wsV RL 43 RX3 yX3_told wsX3_told) := goodIn_app (goodIn_of _ (by decide +kernel)) ggL_told_X3_told
theorem dL_told_0 : decode cL_told 0 = .ok (.aload_n 3, 1) := by decide +kernel
theorem dL_told_1 : decode cL_told 1 = .ok (.iconst 0, 1) := by decide +kernel
theorem dL_told_2 : decode cL_told 2 = .ok (.aload_n 0, 1) := by decide +kernel
theorem dL_told_3 : decode cL_told 3 = .ok (.iload_n 1, 1) := by decide +kernel
theorem dL_told_4 : decode cL_told 4 = .ok (.iload_n 2, 1) := by decide +kernel
theorem dL_told_5 : decode cL_told 5 = .ok (.invokevirtual 43, 3) := by decide +kernel
theorem dL_told_8 : decode cL_told 8 = .ok (.i2l, 1) := by decide +kernel
theorem dL_told_9 : decode cL_told 9 = .ok (.lastore, 1) := by decide +kernel
theorem dL_told_10 : decode cL_told 10 = .ok (.goto 7, 3) := by decide +kernel
theorem dL_told_13 : decode cL_told 13 = .ok (.astore 4, 2) := by decide +kernel
theorem dL_told_15 : decode cL_told 15 = .ok (.iconst 1, 1) := by decide +kernel
theorem dL_told_16 : decode cL_told 16 = .ok (.ireturn, 1) := by decide +kernel
theorem dL_told_17 : decode cL_told 17 = .ok (.iconst 0, 1) := by decide +kernel
theorem dL_told_18 : decode cL_told 18 = .ok (.ireturn, 1) := by decide +kernel
set_option maxRecDepth 20000 in
theorem ggL_count_X3_count : GoodIn wsL_count wsX3_count := goodIn_ca (goodIn_r _ [6, 7, 8, 9, 10, 11, 5, 12, 13, 14, 15, 16, 17, 18, 19, 20, 21, 22, 23, 24, 25, 26, 27, 28, 29, 30, 31, 32, 33, 34, 35, 36, 37, 38, 39, 40, 41, 42, 43, 44, 45, 46, 47, 48, 49, 50, 51, 52, 53, 54, 55, 56, 57, 58, 59, 60, 61, 62, 63, 64, 65, 66, 67, 68, 69, 70, 71, 72, 73, 74, 75, 76, 77, 78, 79, 80] (by decide +kernel) (by decide +kernel)) (goodIn_sub (fun _ h => List.mem_cons_of_mem _ (List.mem_append_right _ h)) (by decide +kernel))
set_option maxRecDepth 20000 in
theorem gL_count_X3_count : GoodIn wsL_count (wsV RL 46 RX3 yX3_count wsX3_count) := goodIn_app (goodIn_of _ (by decide +kernel)) ggL_count_X3_count
theorem dL_count_0 : decode cL_count 0 = .ok (.aload_n 2, 1) := by decide +kernel
theorem dL_count_1 : decode cL_count 1 = .ok (.iconst 0, 1) := by decide +kernel
theorem dL_count_2 : decode cL_count 2 = .ok (.aload_n 0, 1) := by decide +kernel
theorem dL_count_3 : decode cL_count 3 = .ok (.iload_n 1, 1) := by decide +kernel
theorem dL_count_4 : decode cL_count 4 = .ok (.invokevirtual 46, 3) := by decide +kernel
theorem dL_count_7 : decode cL_count 7 = .ok (.i2l, 1) := by decide +kernel
theorem dL_count_8 : decode cL_count 8 = .ok (.lastore, 1) := by decide +kernel
theorem dL_count_9 : decode cL_count 9 = .ok (.goto 6, 3) := by decide +kernel
theorem dL_count_12 : decode cL_count 12 = .ok (.astore_n 3, 1) := by decide +kernel
theorem dL_count_13 : decode cL_count 13 = .ok (.iconst 1, 1) := by decide +kernel
theorem dL_count_14 : decode cL_count 14 = .ok (.ireturn, 1) := by decide +kernel
theorem dL_count_15 : decode cL_count 15 = .ok (.iconst 0, 1) := by decide +kernel
theorem dL_count_16 : decode cL_count 16 = .ok (.ireturn, 1) := by decide +kernel
set_option maxRecDepth 20000 in
theorem ggL_hinders_X3_hinders : GoodIn wsL_hinders wsX3_hinders := goodIn_ca (goodIn_r _ [6, 7, 8, 9, 10, 11, 5, 12, 13, 14, 15, 16, 17, 18, 19, 20, 21, 22, 23, 24, 25, 26, 27, 28, 29, 30, 31, 32, 33, 34, 35, 36, 37, 38, 39, 40, 41, 42, 43, 44, 45, 46, 47, 48, 49, 50, 51, 52, 53, 54, 55] (by decide +kernel) (by decide +kernel)) (goodIn_sub (fun _ h => List.mem_cons_of_mem _ (List.mem_append_right _ h)) (by decide +kernel))
set_option maxRecDepth 20000 in
theorem gL_hinders_X3_hinders : GoodIn wsL_hinders (wsV RL 49 RX3 yX3_hinders wsX3_hinders) := goodIn_app (goodIn_of _ (by decide +kernel)) ggL_hinders_X3_hinders
theorem dL_hinders_0 : decode cL_hinders 0 = .ok (.aload_n 2, 1) := by decide +kernel
theorem dL_hinders_1 : decode cL_hinders 1 = .ok (.iconst 0, 1) := by decide +kernel
theorem dL_hinders_2 : decode cL_hinders 2 = .ok (.aload_n 0, 1) := by decide +kernel
theorem dL_hinders_3 : decode cL_hinders 3 = .ok (.iload_n 1, 1) := by decide +kernel
theorem dL_hinders_4 : decode cL_hinders 4 = .ok (.invokevirtual 49, 3) := by decide +kernel
theorem dL_hinders_7 : decode cL_hinders 7 = .ok (.i2l, 1) := by decide +kernel
theorem dL_hinders_8 : decode cL_hinders 8 = .ok (.lastore, 1) := by decide +kernel
theorem dL_hinders_9 : decode cL_hinders 9 = .ok (.goto 6, 3) := by decide +kernel
theorem dL_hinders_12 : decode cL_hinders 12 = .ok (.astore_n 3, 1) := by decide +kernel
theorem dL_hinders_13 : decode cL_hinders 13 = .ok (.iconst 1, 1) := by decide +kernel
theorem dL_hinders_14 : decode cL_hinders 14 = .ok (.ireturn, 1) := by decide +kernel
theorem dL_hinders_15 : decode cL_hinders 15 = .ok (.iconst 0, 1) := by decide +kernel
theorem dL_hinders_16 : decode cL_hinders 16 = .ok (.ireturn, 1) := by decide +kernel
set_option maxRecDepth 20000 in
theorem ggL_pass_X3_pass : GoodIn wsL_pass wsX3_pass := goodIn_ca (goodIn_r _ [6, 7, 8, 9, 10, 11, 12, 5, 13, 14, 15, 16, 17, 18, 19, 20, 21, 22, 23, 24, 25, 26, 27, 28, 29, 30, 31, 32, 33, 34, 35, 36, 37, 38, 39, 40, 41, 42, 43, 44, 45, 46, 47, 48, 49, 50, 51, 52, 53, 54, 55, 56, 57, 58, 59, 60, 61, 62, 63, 64, 65, 66, 67, 68, 69, 70, 71, 72, 73, 74, 75, 76, 77, 78, 79, 80, 81, 82, 83, 84, 85, 86, 87, 88, 89, 90, 91, 92, 93, 94, 95, 96, 97, 98, 99, 100, 101, 102, 103, 104, 105, 106, 107, 108, 109, 110, 111, 112, 113, 114, 115, 116, 117, 118, 119, 120, 121, 122, 123, 124, 125, 126, 127, 128, 129, 130, 131, 132, 133, 134, 135, 136, 137, 138, 139, 140, 141, 142, 143, 144, 145, 146, 147, 148, 149, 150, 151, 152, 153, 154, 155, 156, 157, 158, 159, 160, 161, 162, 163, 164, 165, 166, 167, 168, 169, 170, 171] (by decide +kernel) (by decide +kernel)) (goodIn_sub (fun _ h => List.mem_cons_of_mem _ (List.mem_append_right _ h)) (by decide +kernel))
set_option maxRecDepth 20000 in
theorem gL_pass_X3_pass : GoodIn wsL_pass (wsV RL 52 RX3 yX3_pass wsX3_pass) := goodIn_app (goodIn_of _ (by decide +kernel)) ggL_pass_X3_pass
theorem dL_pass_0 : decode cL_pass 0 = .ok (.aload_n 2, 1) := by decide +kernel
theorem dL_pass_1 : decode cL_pass 1 = .ok (.iconst 0, 1) := by decide +kernel
theorem dL_pass_2 : decode cL_pass 2 = .ok (.aload_n 0, 1) := by decide +kernel
theorem dL_pass_3 : decode cL_pass 3 = .ok (.iload_n 1, 1) := by decide +kernel
theorem dL_pass_4 : decode cL_pass 4 = .ok (.invokevirtual 52, 3) := by decide +kernel
theorem dL_pass_7 : decode cL_pass 7 = .ok (.i2l, 1) := by decide +kernel
theorem dL_pass_8 : decode cL_pass 8 = .ok (.lastore, 1) := by decide +kernel
theorem dL_pass_9 : decode cL_pass 9 = .ok (.goto 6, 3) := by decide +kernel
theorem dL_pass_12 : decode cL_pass 12 = .ok (.astore_n 3, 1) := by decide +kernel
theorem dL_pass_13 : decode cL_pass 13 = .ok (.iconst 1, 1) := by decide +kernel
theorem dL_pass_14 : decode cL_pass 14 = .ok (.ireturn, 1) := by decide +kernel
theorem dL_pass_15 : decode cL_pass 15 = .ok (.iconst 0, 1) := by decide +kernel
theorem dL_pass_16 : decode cL_pass 16 = .ok (.ireturn, 1) := by decide +kernel
set_option maxRecDepth 20000 in
theorem ggL_catches_X3_catches : GoodIn wsL_catches wsX3_catches := goodIn_ca (goodIn_r _ [6, 7, 8, 9, 10, 11, 12, 13, 14, 15, 16, 17, 18, 19, 20, 21, 22, 23, 24, 25, 26, 27, 28, 29, 30, 31, 32, 33, 34, 35, 36, 37, 38, 39, 40, 41, 42, 43, 44, 45, 46, 47, 48, 49, 50, 51, 52, 53, 54, 55, 56, 57, 58, 59, 60, 61, 62, 63, 64, 65, 66, 67, 68, 69, 70, 71, 72, 73, 74, 75, 76, 77, 78, 79, 80, 81, 82, 83, 84, 85, 86, 87, 88, 89, 90, 91, 92, 93, 94, 95, 96, 97, 98, 99, 100, 101, 102, 103, 104, 105, 106, 107, 108, 109, 110, 111, 112, 113, 114, 115, 116, 117, 118, 119, 120, 121, 122, 123] (by decide +kernel) (by decide +kernel)) (goodIn_sub (fun _ h => List.mem_cons_of_mem _ (List.mem_append_right _ h)) (by decide +kernel))
set_option maxRecDepth 20000 in
theorem gL_catches_X3_catches : GoodIn wsL_catches (wsV RL 55 RX3 yX3_catches wsX3_catches) := goodIn_app (goodIn_of _ (by decide +kernel)) ggL_catches_X3_catches
theorem dL_catches_0 : decode cL_catches 0 = .ok (.aload_n 2, 1) := by decide +kernel
theorem dL_catches_1 : decode cL_catches 1 = .ok (.iconst 0, 1) := by decide +kernel
theorem dL_catches_2 : decode cL_catches 2 = .ok (.aload_n 0, 1) := by decide +kernel
theorem dL_catches_3 : decode cL_catches 3 = .ok (.iload_n 1, 1) := by decide +kernel
theorem dL_catches_4 : decode cL_catches 4 = .ok (.invokevirtual 55, 3) := by decide +kernel
theorem dL_catches_7 : decode cL_catches 7 = .ok (.i2l, 1) := by decide +kernel
theorem dL_catches_8 : decode cL_catches 8 = .ok (.lastore, 1) := by decide +kernel
theorem dL_catches_9 : decode cL_catches 9 = .ok (.goto 6, 3) := by decide +kernel
theorem dL_catches_12 : decode cL_catches 12 = .ok (.astore_n 3, 1) := by decide +kernel
theorem dL_catches_13 : decode cL_catches 13 = .ok (.iconst 1, 1) := by decide +kernel
theorem dL_catches_14 : decode cL_catches 14 = .ok (.ireturn, 1) := by decide +kernel
theorem dL_catches_15 : decode cL_catches 15 = .ok (.iconst 0, 1) := by decide +kernel
theorem dL_catches_16 : decode cL_catches 16 = .ok (.ireturn, 1) := by decide +kernel
set_option maxRecDepth 20000 in
theorem ggL_arrives_X3_arrives : GoodIn wsL_arrives wsX3_arrives := goodIn_ca (goodIn_r _ [6, 7, 8, 9, 10, 11, 12, 13, 14, 15, 16, 17, 18, 19, 20, 21, 22, 23, 24, 25, 26, 27, 28, 29, 30, 31, 32, 33, 34, 35, 36, 37, 38, 39, 40, 41, 42, 43, 44, 45, 46, 47, 48, 49, 50, 51, 52, 53, 54, 55, 56, 57, 58, 59, 60, 61, 62, 63, 64, 65, 66, 67, 68, 69, 70, 71, 72, 73, 74, 75, 76, 77, 78, 79, 80, 81, 82, 83, 84, 85, 86, 87, 88, 89, 90, 91, 92, 93, 94, 95, 96, 97, 98, 99, 100, 101, 102, 103, 104, 105, 106, 107, 108, 109, 110, 111, 112, 113, 114, 115, 116, 117, 118, 119, 120, 121, 122, 123, 124, 125, 126, 127, 128, 129, 130, 131, 132, 133, 134, 135, 136, 137, 138, 139, 140, 141, 142, 143, 144, 145, 146, 147, 148, 149, 150, 151, 152, 153, 154, 155, 156, 157, 158, 159, 160, 161, 162, 163, 164, 165, 166, 167, 168, 169, 170, 171, 172, 173, 174, 175, 176, 177, 178, 179, 180, 181, 182, 183, 184, 185, 186, 187] (by decide +kernel) (by decide +kernel)) (goodIn_sub (fun _ h => List.mem_cons_of_mem _ (List.mem_append_right _ h)) (by decide +kernel))
set_option maxRecDepth 20000 in
theorem gL_arrives_X3_arrives : GoodIn wsL_arrives (wsV RL 58 RX3 yX3_arrives wsX3_arrives) := goodIn_app (goodIn_of _ (by decide +kernel)) ggL_arrives_X3_arrives
theorem dL_arrives_0 : decode cL_arrives 0 = .ok (.aload_n 2, 1) := by decide +kernel
theorem dL_arrives_1 : decode cL_arrives 1 = .ok (.iconst 0, 1) := by decide +kernel
theorem dL_arrives_2 : decode cL_arrives 2 = .ok (.aload_n 0, 1) := by decide +kernel
theorem dL_arrives_3 : decode cL_arrives 3 = .ok (.iload_n 1, 1) := by decide +kernel
theorem dL_arrives_4 : decode cL_arrives 4 = .ok (.invokevirtual 58, 3) := by decide +kernel
theorem dL_arrives_7 : decode cL_arrives 7 = .ok (.i2l, 1) := by decide +kernel
theorem dL_arrives_8 : decode cL_arrives 8 = .ok (.lastore, 1) := by decide +kernel
theorem dL_arrives_9 : decode cL_arrives 9 = .ok (.goto 6, 3) := by decide +kernel
theorem dL_arrives_12 : decode cL_arrives 12 = .ok (.astore_n 3, 1) := by decide +kernel
theorem dL_arrives_13 : decode cL_arrives 13 = .ok (.iconst 1, 1) := by decide +kernel
theorem dL_arrives_14 : decode cL_arrives 14 = .ok (.ireturn, 1) := by decide +kernel
theorem dL_arrives_15 : decode cL_arrives 15 = .ok (.iconst 0, 1) := by decide +kernel
theorem dL_arrives_16 : decode cL_arrives 16 = .ok (.ireturn, 1) := by decide +kernel
set_option maxRecDepth 20000 in
theorem ggL_lasts_X3_lasts : GoodIn wsL_lasts wsX3_lasts := goodIn_ca (goodIn_r _ [6, 7, 8, 9, 10, 11, 12, 13, 14, 15, 16, 17, 18, 19, 20, 21, 22, 23, 24, 25, 26, 27, 28, 29, 30, 31, 32, 33, 34, 35, 36, 37, 38, 39, 40, 41, 42, 43, 44, 45, 46, 47, 48, 49, 50, 51, 52, 53, 54, 55, 56, 57, 58, 59, 60, 61, 62, 63, 64, 65, 66, 67, 68, 69, 70, 71, 72, 73, 74, 75, 76, 77, 78, 79, 80, 81, 82, 83, 84, 85, 86, 87, 88, 89, 90, 91, 92, 93, 94, 95, 96, 97, 98, 99, 100, 101, 102, 103, 104, 105, 106, 107, 108, 109, 110, 111, 112, 113, 114, 115, 116, 117, 118, 119, 120, 121, 122, 123, 124, 125, 126, 127, 128, 129, 130, 131, 132, 133, 134, 135, 136, 137, 138, 139, 140, 141, 142, 143, 144, 145, 146, 147, 148, 149, 150, 151, 152, 153, 154, 155, 156, 157, 158, 159, 160, 161, 162, 163, 164, 165, 166, 167, 168, 169, 170, 171, 172, 173, 174, 175, 176, 177, 178, 179, 180, 181, 182, 183] (by decide +kernel) (by decide +kernel)) (goodIn_sub (fun _ h => List.mem_cons_of_mem _ (List.mem_append_right _ h)) (by decide +kernel))
set_option maxRecDepth 20000 in
theorem gL_lasts_X3_lasts : GoodIn wsL_lasts (wsV RL 61 RX3 yX3_lasts wsX3_lasts) := goodIn_app (goodIn_of _ (by decide +kernel)) ggL_lasts_X3_lasts
theorem dL_lasts_0 : decode cL_lasts 0 = .ok (.aload_n 2, 1) := by decide +kernel
theorem dL_lasts_1 : decode cL_lasts 1 = .ok (.iconst 0, 1) := by decide +kernel
theorem dL_lasts_2 : decode cL_lasts 2 = .ok (.aload_n 0, 1) := by decide +kernel
theorem dL_lasts_3 : decode cL_lasts 3 = .ok (.iload_n 1, 1) := by decide +kernel
theorem dL_lasts_4 : decode cL_lasts 4 = .ok (.invokevirtual 61, 3) := by decide +kernel
theorem dL_lasts_7 : decode cL_lasts 7 = .ok (.i2l, 1) := by decide +kernel
theorem dL_lasts_8 : decode cL_lasts 8 = .ok (.lastore, 1) := by decide +kernel
theorem dL_lasts_9 : decode cL_lasts 9 = .ok (.goto 6, 3) := by decide +kernel
theorem dL_lasts_12 : decode cL_lasts 12 = .ok (.astore_n 3, 1) := by decide +kernel
theorem dL_lasts_13 : decode cL_lasts 13 = .ok (.iconst 1, 1) := by decide +kernel
theorem dL_lasts_14 : decode cL_lasts 14 = .ok (.ireturn, 1) := by decide +kernel
theorem dL_lasts_15 : decode cL_lasts 15 = .ok (.iconst 0, 1) := by decide +kernel
theorem dL_lasts_16 : decode cL_lasts 16 = .ok (.ireturn, 1) := by decide +kernel
set_option maxRecDepth 20000 in
theorem ggL_foresee_X3_foresee : GoodIn wsL_foresee wsX3_foresee := goodIn_ca (goodIn_ca (goodIn_r _ [7, 8, 9, 10, 11, 12, 13, 14, 15, 6, 16, 17, 18, 19, 20, 21, 22, 23, 24, 25, 26, 27, 28, 29, 30, 31, 32, 33, 34, 35, 36, 37, 38, 39, 40, 41, 42, 43, 44, 45, 46, 47, 48, 49, 50, 51, 52, 53, 54, 55, 56, 57, 58, 59, 60, 61, 62, 63, 64, 65, 66, 67, 68, 69, 70, 71, 72, 73, 74, 75, 76, 77, 78, 79, 80, 81, 82, 83, 84, 85, 86, 87, 88, 89, 90, 91, 92, 93, 94, 95, 96, 97, 98, 99, 100, 101, 102, 103, 104, 105, 106, 107, 108, 109, 110, 111, 112, 113, 114, 115, 116, 117, 118, 119, 120, 121, 122, 123, 124, 125, 126, 127, 128, 129, 130, 131, 132, 133, 134, 135, 136, 137, 138, 139, 140, 141, 142, 143, 144, 145, 146, 147, 148, 149, 150, 151, 152, 153, 154, 155, 156, 157, 158, 159, 160, 161, 162, 163, 164, 165, 166, 167, 168, 169, 170, 171, 172, 173, 174, 175, 176, 177, 178, 179, 180, 181, 182, 183, 184, 185, 186, 187, 188, 189, 190, 191, 192, 193, 194, 195, 196, 197, 198, 199] (by decide +kernel) (by decide +kernel)) (goodIn_sub (fun _ h => List.mem_cons_of_mem _ (List.mem_append_left _ (List.mem_append_right _ h))) (by decide +kernel))) (goodIn_sub (fun _ h => List.mem_cons_of_mem _ (List.mem_append_right _ h)) (by decide +kernel))
set_option maxRecDepth 20000 in
theorem gL_foresee_X3_foresee : GoodIn wsL_foresee (wsV RL 64 RX3 yX3_foresee wsX3_foresee) := goodIn_app (goodIn_of _ (by decide +kernel)) ggL_foresee_X3_foresee
theorem dL_foresee_0 : decode cL_foresee 0 = .ok (.aload_n 3, 1) := by decide +kernel
theorem dL_foresee_1 : decode cL_foresee 1 = .ok (.iconst 0, 1) := by decide +kernel
theorem dL_foresee_2 : decode cL_foresee 2 = .ok (.aload_n 0, 1) := by decide +kernel
theorem dL_foresee_3 : decode cL_foresee 3 = .ok (.iload_n 1, 1) := by decide +kernel
theorem dL_foresee_4 : decode cL_foresee 4 = .ok (.iload_n 2, 1) := by decide +kernel
theorem dL_foresee_5 : decode cL_foresee 5 = .ok (.invokevirtual 64, 3) := by decide +kernel
theorem dL_foresee_8 : decode cL_foresee 8 = .ok (.i2l, 1) := by decide +kernel
theorem dL_foresee_9 : decode cL_foresee 9 = .ok (.lastore, 1) := by decide +kernel
theorem dL_foresee_10 : decode cL_foresee 10 = .ok (.goto 11, 3) := by decide +kernel
theorem dL_foresee_13 : decode cL_foresee 13 = .ok (.astore 4, 2) := by decide +kernel
theorem dL_foresee_15 : decode cL_foresee 15 = .ok (.iconst 1, 1) := by decide +kernel
theorem dL_foresee_16 : decode cL_foresee 16 = .ok (.ireturn, 1) := by decide +kernel
theorem dL_foresee_17 : decode cL_foresee 17 = .ok (.astore 4, 2) := by decide +kernel
theorem dL_foresee_19 : decode cL_foresee 19 = .ok (.iconst 2, 1) := by decide +kernel
theorem dL_foresee_20 : decode cL_foresee 20 = .ok (.ireturn, 1) := by decide +kernel
theorem dL_foresee_21 : decode cL_foresee 21 = .ok (.iconst 0, 1) := by decide +kernel
theorem dL_foresee_22 : decode cL_foresee 22 = .ok (.ireturn, 1) := by decide +kernel
set_option maxRecDepth 20000 in
theorem ggL_advise_X3_advise : GoodIn wsL_advise wsX3_advise := goodIn_ca (goodIn_ca (goodIn_r _ [7, 8, 9, 10, 11, 12, 13, 14, 15, 16, 17, 18, 19, 20, 21, 6, 22, 23, 24, 25, 26, 27, 28, 29, 30, 31, 32, 33, 34, 35, 36, 37, 38, 39, 40, 41, 42, 43, 44, 45, 46, 47, 48, 49, 50, 51, 52, 53, 54, 55, 56, 57, 58, 59, 60, 61, 62, 63, 64, 65, 66, 67, 68, 69, 70, 71, 72, 73, 74, 75, 76, 77, 78, 79, 80, 81, 82, 83, 84, 85, 86, 87, 88, 89, 90, 91, 92, 93, 94, 95, 96, 97, 98, 99, 100, 101, 102, 103, 104, 105, 106, 107, 108, 109, 110, 111, 112, 113, 114, 115, 116, 117, 118, 119, 120, 121, 122, 123, 124, 125, 126, 127, 128, 129, 130, 131, 132, 133, 134, 135, 136, 137, 138, 139, 140, 141, 142, 143, 144, 145, 146, 147, 148, 149, 150, 151, 152, 153, 154, 155, 156, 157, 158, 159, 160, 161, 162, 163, 164, 165, 166, 167, 168, 169, 170, 171, 172, 173, 174, 175, 176, 177, 178, 179, 180, 181, 182, 183, 184, 185, 186, 187, 188, 189, 190, 191, 192, 193, 194] (by decide +kernel) (by decide +kernel)) (goodIn_sub (fun _ h => List.mem_cons_of_mem _ (List.mem_append_left _ (List.mem_append_right _ h))) (by decide +kernel))) (goodIn_sub (fun _ h => List.mem_cons_of_mem _ (List.mem_append_right _ h)) (by decide +kernel))
set_option maxRecDepth 20000 in
theorem gL_advise_X3_advise : GoodIn wsL_advise (wsV RL 67 RX3 yX3_advise wsX3_advise) := goodIn_app (goodIn_of _ (by decide +kernel)) ggL_advise_X3_advise
theorem dL_advise_0 : decode cL_advise 0 = .ok (.aload_n 3, 1) := by decide +kernel
theorem dL_advise_1 : decode cL_advise 1 = .ok (.iconst 0, 1) := by decide +kernel
theorem dL_advise_2 : decode cL_advise 2 = .ok (.aload_n 0, 1) := by decide +kernel
theorem dL_advise_3 : decode cL_advise 3 = .ok (.iload_n 1, 1) := by decide +kernel
theorem dL_advise_4 : decode cL_advise 4 = .ok (.iload_n 2, 1) := by decide +kernel
theorem dL_advise_5 : decode cL_advise 5 = .ok (.invokevirtual 67, 3) := by decide +kernel
theorem dL_advise_8 : decode cL_advise 8 = .ok (.i2l, 1) := by decide +kernel
theorem dL_advise_9 : decode cL_advise 9 = .ok (.lastore, 1) := by decide +kernel
theorem dL_advise_10 : decode cL_advise 10 = .ok (.goto 11, 3) := by decide +kernel
theorem dL_advise_13 : decode cL_advise 13 = .ok (.astore 4, 2) := by decide +kernel
theorem dL_advise_15 : decode cL_advise 15 = .ok (.iconst 1, 1) := by decide +kernel
theorem dL_advise_16 : decode cL_advise 16 = .ok (.ireturn, 1) := by decide +kernel
theorem dL_advise_17 : decode cL_advise 17 = .ok (.astore 4, 2) := by decide +kernel
theorem dL_advise_19 : decode cL_advise 19 = .ok (.iconst 2, 1) := by decide +kernel
theorem dL_advise_20 : decode cL_advise 20 = .ok (.ireturn, 1) := by decide +kernel
theorem dL_advise_21 : decode cL_advise 21 = .ok (.iconst 0, 1) := by decide +kernel
theorem dL_advise_22 : decode cL_advise 22 = .ok (.ireturn, 1) := by decide +kernel
set_option maxRecDepth 20000 in
theorem ggL_law_X3_init : GoodIn wsL_law wsX3_init := goodIn_r _ [9, 10, 11, 12, 13, 14, 15, 16, 17, 18, 19, 20, 21, 22, 23, 24, 25, 26, 27, 28, 29, 30, 31, 32, 33, 34, 35, 36, 37, 38, 661, 662, 663, 664, 665, 666, 667, 668, 669, 670, 652, 653, 671, 672, 673, 674, 675, 676, 677, 678, 679, 680, 681, 682] (by decide +kernel) (by decide +kernel)
set_option maxRecDepth 20000 in
theorem gL_law_X3_init : GoodIn wsL_law (wsX3_init) := ggL_law_X3_init
set_option maxRecDepth 20000 in
theorem ggL_law_X5_init : GoodIn wsL_law wsX5_init := goodIn_r _ [41, 42, 11, 12, 22, 43, 44, 45, 46, 47, 48, 49, 50, 51, 52, 53, 54, 55, 56, 57, 58, 59, 60, 61, 62, 63, 64, 654, 655, 656, 657, 658, 659, 660, 683, 684, 685, 686, 687, 688, 689, 690, 691, 692, 693, 694, 695, 696, 697, 698] (by decide +kernel) (by decide +kernel)
set_option maxRecDepth 20000 in
theorem gL_law_X5_init : GoodIn wsL_law (wsX5_init) := ggL_law_X5_init
set_option maxRecDepth 20000 in
theorem ggL_law_L_weir : GoodIn wsL_law wsL_weir := goodIn_ca (goodIn_ca (goodIn_r _ [68, 69, 70, 71, 72, 73, 2, 74, 75, 76, 77, 78, 16, 79, 80, 81, 82, 83, 84, 85, 15, 86, 87, 88, 89, 90, 91, 24, 92, 93, 94, 95, 96, 97, 98, 99, 100, 26, 101, 102, 103, 28, 104, 105, 106, 107, 108, 109, 110, 111, 112, 652, 653, 661, 662, 663, 664, 665, 666, 667, 668, 669, 670, 671, 672, 673, 674, 675, 676, 677, 678] (by decide +kernel) (by decide +kernel)) (goodIn_sub (fun _ h => List.mem_append_left _ (List.mem_append_left _ (List.mem_append_right _ h))) (by decide +kernel))) (goodIn_sub (fun _ h => List.mem_append_left _ (List.mem_append_right _ h)) (by decide +kernel))
set_option maxRecDepth 20000 in
theorem gL_law_L_weir : GoodIn wsL_law (va_wsS RL 74 yL_weir wsL_weir) := goodIn_app (goodIn_of _ (by decide +kernel)) ggL_law_L_weir
set_option maxRecDepth 20000 in
theorem ggL_law_X5_weir : GoodIn wsL_law wsX5_weir := goodIn_r _ [116, 117, 118, 44, 45, 49, 119, 120, 5, 121, 122, 123, 124, 125, 654, 655, 656, 657, 658, 659, 660, 683, 684, 685, 686, 687, 688, 689, 690, 691, 692, 693, 694, 695, 696, 697, 698] (by decide +kernel) (by decide +kernel)
set_option maxRecDepth 20000 in
theorem gL_law_X5_weir : GoodIn wsL_law (wsV RL 79 RX5 yX5_weir wsX5_weir) := goodIn_app (goodIn_of _ (by decide +kernel)) ggL_law_X5_weir
set_option maxRecDepth 20000 in
theorem ggL_law_X5_thrown : GoodIn wsL_law wsX5_thrown := goodIn_r _ [129, 117, 654, 655, 656, 657, 658, 659, 660] (by decide +kernel) (by decide +kernel)
set_option maxRecDepth 20000 in
theorem gL_law_X5_thrown : GoodIn wsL_law (wsV RL 80 RX5 yX5_thrown wsX5_thrown) := goodIn_app (goodIn_of _ (by decide +kernel)) ggL_law_X5_thrown
set_option maxRecDepth 20000 in
theorem ggL_law_L_gate : GoodIn wsL_law wsL_gate := goodIn_ca (goodIn_ca (goodIn_r _ [132, 133, 70, 134, 135, 136, 2, 137, 138, 139, 77, 78, 16, 140, 141, 98, 99, 15, 100, 87, 26, 142, 143, 144, 28, 145, 112, 652, 653, 671, 672, 673, 674, 675, 676, 677, 678, 661, 662, 663, 664, 665, 666, 667, 668, 669, 670] (by decide +kernel) (by decide +kernel)) (goodIn_sub (fun _ h => List.mem_append_right _ h) (by decide +kernel))) (goodIn_sub (fun _ h => List.mem_append_left _ (List.mem_append_right _ h)) (by decide +kernel))
set_option maxRecDepth 20000 in
theorem gL_law_L_gate : GoodIn wsL_law (va_wsS RL 84 yL_gate wsL_gate) := goodIn_app (goodIn_of _ (by decide +kernel)) ggL_law_L_gate
set_option maxRecDepth 20000 in
theorem ggL_law_X5_gate : GoodIn wsL_law wsX5_gate := goodIn_r _ [149, 49, 117, 150, 151, 152, 5, 153, 118, 119, 120, 121, 154, 155, 156, 48, 157, 60, 654, 655, 656, 657, 658, 659, 660, 683, 684, 685, 686, 687, 688, 689, 690, 691, 692, 693, 694, 695, 696, 697, 698] (by decide +kernel) (by decide +kernel)
set_option maxRecDepth 20000 in
theorem gL_law_X5_gate : GoodIn wsL_law (wsV RL 87 RX5 yX5_gate wsX5_gate) := goodIn_app (goodIn_of _ (by decide +kernel)) ggL_law_X5_gate
set_option maxRecDepth 20000 in
theorem ggL_law_L_mend : GoodIn wsL_law wsL_mend := goodIn_ca (goodIn_ca (goodIn_ca (goodIn_r _ [160, 133, 69, 70, 161, 162, 163, 2, 164, 138, 139, 75, 76, 77, 78, 16, 165, 166, 141, 98, 99, 15, 100, 87, 26, 80, 81, 82, 142, 143, 144, 28, 145, 112, 652, 653, 671, 672, 673, 674, 675, 676, 677, 678, 661, 662, 663, 664, 665, 666, 667, 668, 669, 670] (by decide +kernel) (by decide +kernel)) (goodIn_sub (fun _ h => List.mem_append_right _ h) (by decide +kernel))) (goodIn_sub (fun _ h => List.mem_append_left _ (List.mem_append_left _ (List.mem_append_right _ h))) (by decide +kernel))) (goodIn_sub (fun _ h => List.mem_append_left _ (List.mem_append_right _ h)) (by decide +kernel))
set_option maxRecDepth 20000 in
theorem gL_law_L_mend : GoodIn wsL_law (va_wsS RL 88 yL_mend wsL_mend) := goodIn_app (goodIn_of _ (by decide +kernel)) ggL_law_L_mend
set_option maxRecDepth 20000 in
theorem ggL_law_X5_mend : GoodIn wsL_law wsX5_mend := goodIn_r _ [170, 117, 49, 150, 151, 152, 5, 153, 118, 119, 120, 121, 122, 123, 124, 125, 154, 155, 156, 48, 157, 60, 654, 655, 656, 657, 658, 659, 660, 683, 684, 685, 686, 687, 688, 689, 690, 691, 692, 693, 694, 695, 696, 697, 698] (by decide +kernel) (by decide +kernel)
set_option maxRecDepth 20000 in
theorem gL_law_X5_mend : GoodIn wsL_law (wsV RL 91 RX5 yX5_mend wsX5_mend) := goodIn_app (goodIn_of _ (by decide +kernel)) ggL_law_X5_mend
set_option maxRecDepth 20000 in
theorem ggL_law_L_drive : GoodIn wsL_law wsL_drive := goodIn_ca (goodIn_ca (goodIn_ca (goodIn_r _ [173, 133, 69, 70, 174, 175, 176, 2, 177, 138, 139, 75, 76, 77, 78, 16, 178, 166, 141, 98, 99, 15, 100, 87, 26, 80, 81, 82, 142, 143, 144, 28, 145, 112, 652, 653, 671, 672, 673, 674, 675, 676, 677, 678, 661, 662, 663, 664, 665, 666, 667, 668, 669, 670] (by decide +kernel) (by decide +kernel)) (goodIn_sub (fun _ h => List.mem_append_right _ h) (by decide +kernel))) (goodIn_sub (fun _ h => List.mem_append_left _ (List.mem_append_left _ (List.mem_append_right _ h))) (by decide +kernel))) (goodIn_sub (fun _ h => List.mem_append_left _ (List.mem_append_right _ h)) (by decide +kernel))
set_option maxRecDepth 20000 in
theorem gL_law_L_drive : GoodIn wsL_law (va_wsS RL 92 yL_drive wsL_drive) := goodIn_app (goodIn_of _ (by decide +kernel)) ggL_law_L_drive
set_option maxRecDepth 20000 in
theorem ggL_law_X5_drive : GoodIn wsL_law wsX5_drive := goodIn_r _ [182, 117, 49, 150, 151, 152, 5, 153, 118, 119, 120, 121, 122, 123, 124, 125, 154, 155, 156, 48, 157, 60, 654, 655, 656, 657, 658, 659, 660, 683, 684, 685, 686, 687, 688, 689, 690, 691, 692, 693, 694, 695, 696, 697, 698] (by decide +kernel) (by decide +kernel)
set_option maxRecDepth 20000 in
theorem gL_law_X5_drive : GoodIn wsL_law (wsV RL 94 RX5 yX5_drive wsX5_drive) := goodIn_app (goodIn_of _ (by decide +kernel)) ggL_law_X5_drive
set_option maxRecDepth 20000 in
theorem ggL_law_L_sell : GoodIn wsL_law wsL_sell := goodIn_ca (goodIn_ca (goodIn_r _ [185, 133, 70, 186, 187, 188, 2, 189, 138, 139, 77, 78, 16, 190, 166, 141, 98, 99, 15, 100, 87, 26, 142, 143, 144, 28, 145, 112, 191, 192, 193, 194, 195, 196, 197, 198, 199, 200, 201, 202, 652, 653, 671, 672, 673, 674, 675, 676, 677, 678, 661, 662, 663, 664, 665, 666, 667, 668, 669, 670] (by decide +kernel) (by decide +kernel)) (goodIn_sub (fun _ h => List.mem_append_right _ h) (by decide +kernel))) (goodIn_sub (fun _ h => List.mem_append_left _ (List.mem_append_right _ h)) (by decide +kernel))
set_option maxRecDepth 20000 in
theorem gL_law_L_sell : GoodIn wsL_law (va_wsS RL 95 yL_sell wsL_sell) := goodIn_app (goodIn_of _ (by decide +kernel)) ggL_law_L_sell
set_option maxRecDepth 20000 in
theorem ggL_law_X5_sell : GoodIn wsL_law wsX5_sell := goodIn_r _ [206, 117, 49, 150, 151, 152, 5, 153, 118, 119, 120, 121, 122, 123, 124, 125, 154, 155, 156, 48, 157, 60, 207, 208, 209, 210, 211, 654, 655, 656, 657, 658, 659, 660, 683, 684, 685, 686, 687, 688, 689, 690, 691, 692, 693, 694, 695, 696, 697, 698] (by decide +kernel) (by decide +kernel)
set_option maxRecDepth 20000 in
theorem gL_law_X5_sell : GoodIn wsL_law (wsV RL 97 RX5 yX5_sell wsX5_sell) := goodIn_app (goodIn_of _ (by decide +kernel)) ggL_law_X5_sell
set_option maxRecDepth 20000 in
theorem ggL_law_L_setRun : GoodIn wsL_law wsL_setRun := goodIn_ca (goodIn_ca (goodIn_r _ [214, 133, 69, 215, 216, 217, 2, 218, 138, 139, 75, 76, 16, 80, 81, 82, 219, 220, 221, 15, 222, 23, 223, 224, 225, 226, 652, 653, 661, 662, 663, 664, 665, 666, 667, 668, 669, 670] (by decide +kernel) (by decide +kernel)) (goodIn_sub (fun _ h => List.mem_append_right _ h) (by decide +kernel))) (goodIn_sub (fun _ h => List.mem_append_left _ (List.mem_append_left _ (List.mem_append_right _ h))) (by decide +kernel))
set_option maxRecDepth 20000 in
theorem gL_law_L_setRun : GoodIn wsL_law (va_wsS RL 98 yL_setRun wsL_setRun) := goodIn_app (goodIn_of _ (by decide +kernel)) ggL_law_L_setRun
set_option maxRecDepth 20000 in
theorem ggL_law_X5_setRun : GoodIn wsL_law wsX5_setRun := goodIn_r _ [230, 117, 43, 119, 120, 5, 121, 122, 123, 124, 125, 654, 655, 656, 657, 658, 659, 660] (by decide +kernel) (by decide +kernel)
set_option maxRecDepth 20000 in
theorem gL_law_X5_setRun : GoodIn wsL_law (wsV RL 100 RX5 yX5_setRun wsX5_setRun) := goodIn_app (goodIn_of _ (by decide +kernel)) ggL_law_X5_setRun
set_option maxRecDepth 20000 in
theorem ggL_law_L_barge : GoodIn wsL_law wsL_barge := goodIn_ca (goodIn_ca (goodIn_r _ [233, 69, 70, 234, 235, 236, 2, 237, 75, 76, 77, 78, 16, 238, 80, 81, 82, 239, 240, 241, 15, 242, 243, 244, 245, 246, 247, 248, 30, 249, 250, 251, 32, 252, 253, 254, 255, 256, 652, 653, 661, 662, 663, 664, 665, 666, 667, 668, 669, 670, 679, 680, 681, 682] (by decide +kernel) (by decide +kernel)) (goodIn_sub (fun _ h => List.mem_append_left _ (List.mem_append_left _ (List.mem_append_right _ h))) (by decide +kernel))) (goodIn_sub (fun _ h => List.mem_append_left _ (List.mem_append_right _ h)) (by decide +kernel))
set_option maxRecDepth 20000 in
theorem gL_law_L_barge : GoodIn wsL_law (va_wsS RL 101 yL_barge wsL_barge) := goodIn_app (goodIn_of _ (by decide +kernel)) ggL_law_L_barge
set_option maxRecDepth 20000 in
theorem ggL_law_X5_barge : GoodIn wsL_law wsX5_barge := goodIn_r _ [260, 117, 49, 119, 120, 5, 121, 122, 123, 124, 125, 654, 655, 656, 657, 658, 659, 660, 683, 684, 685, 686, 687, 688, 689, 690, 691, 692, 693, 694, 695, 696, 697, 698] (by decide +kernel) (by decide +kernel)
set_option maxRecDepth 20000 in
theorem gL_law_X5_barge : GoodIn wsL_law (wsV RL 103 RX5 yX5_barge wsX5_barge) := goodIn_app (goodIn_of _ (by decide +kernel)) ggL_law_X5_barge
set_option maxRecDepth 20000 in
theorem ggL_law_L_about : GoodIn wsL_law wsL_about := goodIn_ca (goodIn_r _ [263, 133, 264, 265, 266, 2, 267, 138, 139, 16, 141, 98, 99, 15, 100, 87, 26, 80, 81, 82, 268, 269, 270, 28, 271, 105, 106, 107, 108, 109, 110, 111, 112, 652, 653, 661, 662, 663, 664, 665, 666, 667, 668, 669, 670, 671, 672, 673, 674, 675, 676, 677, 678] (by decide +kernel) (by decide +kernel)) (goodIn_sub (fun _ h => List.mem_append_right _ h) (by decide +kernel))
set_option maxRecDepth 20000 in
theorem gL_law_L_about : GoodIn wsL_law (va_wsS RL 104 yL_about wsL_about) := goodIn_app (goodIn_of _ (by decide +kernel)) ggL_law_L_about
set_option maxRecDepth 20000 in
theorem ggL_law_X5_about : GoodIn wsL_law wsX5_about := goodIn_r _ [275, 117, 150, 151, 152, 5, 153, 118, 119, 120, 121, 276, 277, 278, 279, 22, 44, 49, 45, 122, 123, 124, 125, 654, 655, 656, 657, 658, 659, 660, 683, 684, 685, 686, 687, 688, 689, 690, 691, 692, 693, 694, 695, 696, 697, 698] (by decide +kernel) (by decide +kernel)
set_option maxRecDepth 20000 in
theorem gL_law_X5_about : GoodIn wsL_law (wsV RL 106 RX5 yX5_about wsX5_about) := goodIn_app (goodIn_of _ (by decide +kernel)) ggL_law_X5_about
set_option maxRecDepth 20000 in
theorem ggL_law_L_told : GoodIn wsL_law wsL_told := goodIn_ca (goodIn_r _ [282, 133, 283, 284, 285, 2, 286, 138, 139, 16, 287, 246, 247, 15, 248, 243, 30, 80, 81, 82, 288, 289, 290, 291, 292, 293, 294, 295, 296, 297, 298, 87, 96, 97, 98, 99, 100, 26, 299, 300, 301, 28, 302, 106, 303, 304, 305, 306, 112, 111, 652, 653, 661, 662, 663, 664, 665, 666, 667, 668, 669, 670, 679, 680, 681, 682, 671, 672, 673, 674, 675, 676, 677, 678] (by decide +kernel) (by decide +kernel)) (goodIn_sub (fun _ h => List.mem_append_right _ h) (by decide +kernel))
set_option maxRecDepth 20000 in
theorem gL_law_L_told : GoodIn wsL_law (va_wsS RL 107 yL_told wsL_told) := goodIn_app (goodIn_of _ (by decide +kernel)) ggL_law_L_told
set_option maxRecDepth 20000 in
theorem ggL_law_X5_told : GoodIn wsL_law wsX5_told := goodIn_r _ [310, 117, 311, 312, 313, 5, 314, 49, 119, 120, 121, 315, 316, 317, 318, 319, 320, 321, 322, 118, 44, 323, 324, 325, 48, 326, 59, 55, 327, 155, 156, 157, 60, 122, 123, 124, 125, 654, 655, 656, 657, 658, 659, 660, 683, 684, 685, 686, 687, 688, 689, 690, 691, 692, 693, 694, 695, 696, 697, 698] (by decide +kernel) (by decide +kernel)
set_option maxRecDepth 20000 in
theorem gL_law_X5_told : GoodIn wsL_law (wsV RL 109 RX5 yX5_told wsX5_told) := goodIn_app (goodIn_of _ (by decide +kernel)) ggL_law_X5_told
set_option maxRecDepth 20000 in
theorem ggL_law_L_count : GoodIn wsL_law wsL_count := goodIn_ca (goodIn_r _ [330, 133, 331, 332, 333, 2, 334, 138, 139, 16, 80, 81, 82, 335, 336, 337, 15, 338, 195, 87, 243, 244, 339, 340, 341, 192, 193, 194, 196, 197, 198, 199, 342, 343, 344, 345, 346, 220, 221, 222, 23, 347, 348, 349, 350, 97, 98, 99, 100, 26, 351, 143, 144, 28, 145, 112, 352, 353, 354, 355, 356, 652, 653, 661, 662, 663, 664, 665, 666, 667, 668, 669, 670, 671, 672, 673, 674, 675, 676, 677, 678] (by decide +kernel) (by decide +kernel)) (goodIn_sub (fun _ h => List.mem_append_right _ h) (by decide +kernel))
set_option maxRecDepth 20000 in
theorem gL_law_L_count : GoodIn wsL_law (va_wsS RL 110 yL_count wsL_count) := goodIn_app (goodIn_of _ (by decide +kernel)) ggL_law_L_count
set_option maxRecDepth 20000 in
theorem ggL_law_X5_count : GoodIn wsL_law wsX5_count := goodIn_r _ [360, 117, 49, 119, 120, 5, 121, 361, 362, 363, 48, 364, 22, 211, 53, 365, 366, 367, 368, 369, 208, 209, 210, 370, 371, 372, 373, 374, 375, 376, 377, 327, 155, 156, 157, 60, 378, 379, 380, 381, 58, 122, 123, 124, 125, 654, 655, 656, 657, 658, 659, 660, 683, 684, 685, 686, 687, 688, 689, 690, 691, 692, 693, 694, 695, 696, 697, 698] (by decide +kernel) (by decide +kernel)
set_option maxRecDepth 20000 in
theorem gL_law_X5_count : GoodIn wsL_law (wsV RL 112 RX5 yX5_count wsX5_count) := goodIn_app (goodIn_of _ (by decide +kernel)) ggL_law_X5_count
set_option maxRecDepth 20000 in
theorem ggL_law_L_hinders : GoodIn wsL_law wsL_hinders := goodIn_ca (goodIn_r _ [384, 69, 385, 386, 387, 2, 388, 75, 76, 16, 80, 81, 82, 389, 390, 391, 15, 392, 87, 97, 98, 99, 100, 26, 299, 300, 301, 28, 302, 106, 303, 304, 305, 306, 112, 111, 652, 653, 661, 662, 663, 664, 665, 666, 667, 668, 669, 670, 671, 672, 673, 674, 675, 676, 677, 678] (by decide +kernel) (by decide +kernel)) (goodIn_sub (fun _ h => List.mem_append_left _ (List.mem_append_left _ (List.mem_append_right _ h))) (by decide +kernel))
set_option maxRecDepth 20000 in
theorem gL_law_L_hinders : GoodIn wsL_law (va_wsS RL 113 yL_hinders wsL_hinders) := goodIn_app (goodIn_of _ (by decide +kernel)) ggL_law_L_hinders
set_option maxRecDepth 20000 in
theorem ggL_law_X5_hinders : GoodIn wsL_law wsX5_hinders := goodIn_r _ [396, 117, 118, 49, 119, 120, 5, 121, 122, 123, 124, 125, 323, 324, 325, 48, 326, 59, 55, 327, 155, 156, 157, 60, 654, 655, 656, 657, 658, 659, 660, 683, 684, 685, 686, 687, 688, 689, 690, 691, 692, 693, 694, 695, 696, 697, 698] (by decide +kernel) (by decide +kernel)
set_option maxRecDepth 20000 in
theorem gL_law_X5_hinders : GoodIn wsL_law (wsV RL 115 RX5 yX5_hinders wsX5_hinders) := goodIn_app (goodIn_of _ (by decide +kernel)) ggL_law_X5_hinders
set_option maxRecDepth 20000 in
theorem ggL_law_X3_richest : GoodIn wsL_law wsX3_richest := goodIn_r _ [400, 16, 401, 402, 403, 15, 404, 87, 405, 97, 98, 99, 100, 26, 351, 143, 144, 28, 145, 112, 652, 653, 661, 662, 663, 664, 665, 666, 667, 668, 669, 670, 671, 672, 673, 674, 675, 676, 677, 678] (by decide +kernel) (by decide +kernel)
set_option maxRecDepth 20000 in
theorem gL_law_X3_richest : GoodIn wsL_law (wsV RL 116 RX3 yX3_richest wsX3_richest) := goodIn_app (goodIn_of _ (by decide +kernel)) ggL_law_X3_richest
set_option maxRecDepth 20000 in
theorem ggL_law_X5_richest : GoodIn wsL_law wsX5_richest := goodIn_r _ [409, 117, 118, 49, 154, 155, 156, 48, 157, 60, 654, 655, 656, 657, 658, 659, 660, 683, 684, 685, 686, 687, 688, 689, 690, 691, 692, 693, 694, 695, 696, 697, 698] (by decide +kernel) (by decide +kernel)
set_option maxRecDepth 20000 in
theorem gL_law_X5_richest : GoodIn wsL_law (wsV RL 119 RX5 yX5_richest wsX5_richest) := goodIn_app (goodIn_of _ (by decide +kernel)) ggL_law_X5_richest
set_option maxRecDepth 20000 in
theorem ggL_law_L_pass : GoodIn wsL_law wsL_pass := goodIn_ca (goodIn_r _ [412, 69, 413, 414, 415, 2, 416, 75, 76, 16, 417, 80, 81, 82, 418, 419, 420, 15, 421, 195, 422, 423, 424, 425, 87, 342, 343, 344, 345, 196, 197, 198, 199, 346, 220, 221, 222, 23, 341, 192, 193, 194, 426, 427, 428, 429, 24, 97, 98, 99, 100, 26, 430, 304, 305, 28, 306, 112, 111, 431, 432, 433, 434, 106, 107, 110, 435, 436, 437, 438, 439, 440, 441, 442, 243, 96, 245, 246, 247, 248, 30, 295, 296, 297, 298, 293, 292, 299, 300, 301, 302, 303, 443, 444, 445, 32, 446, 255, 447, 448, 449, 450, 451, 339, 294, 452, 453, 454, 455, 109, 456, 457, 458, 459, 460, 461, 462, 463, 244, 464, 465, 466, 467, 468, 469, 470, 253, 254, 256, 471, 472, 473, 474, 351, 143, 144, 145, 475, 476, 477, 478, 479, 340, 480, 481, 482, 483, 108, 652, 653, 661, 662, 663, 664, 665, 666, 667, 668, 669, 670, 671, 672, 673, 674, 675, 676, 677, 678, 679, 680, 681, 682] (by decide +kernel) (by decide +kernel)) (goodIn_sub (fun _ h => List.mem_append_left _ (List.mem_append_left _ (List.mem_append_right _ h))) (by decide +kernel))
set_option maxRecDepth 20000 in
theorem gL_law_L_pass : GoodIn wsL_law (va_wsS RL 120 yL_pass wsL_pass) := goodIn_app (goodIn_of _ (by decide +kernel)) ggL_law_L_pass
set_option maxRecDepth 20000 in
theorem ggL_law_X5_pass : GoodIn wsL_law wsX5_pass := goodIn_r _ [487, 117, 49, 119, 120, 5, 121, 122, 123, 124, 125, 488, 489, 490, 48, 491, 492, 493, 494, 495, 365, 53, 56, 496, 497, 437, 498, 211, 499, 500, 501, 502, 59, 55, 58, 503, 436, 438, 370, 371, 372, 373, 369, 208, 209, 210, 327, 155, 156, 157, 60, 504, 505, 506, 507, 62, 508, 509, 510, 511, 61, 57, 367, 63, 512, 324, 325, 326, 513, 514, 515, 516, 366, 64, 517, 518, 519, 520, 368, 654, 655, 656, 657, 658, 659, 660, 683, 684, 685, 686, 687, 688, 689, 690, 691, 692, 693, 694, 695, 696, 697, 698] (by decide +kernel) (by decide +kernel)
set_option maxRecDepth 20000 in
theorem gL_law_X5_pass : GoodIn wsL_law (wsV RL 122 RX5 yX5_pass wsX5_pass) := goodIn_app (goodIn_of _ (by decide +kernel)) ggL_law_X5_pass
set_option maxRecDepth 20000 in
theorem ggL_law_L_catches : GoodIn wsL_law wsL_catches := goodIn_ca (goodIn_r _ [523, 133, 524, 525, 526, 2, 527, 138, 139, 16, 17, 190, 141, 98, 99, 15, 100, 87, 26, 528, 529, 530, 531, 23, 24, 243, 195, 244, 339, 340, 346, 220, 221, 222, 426, 427, 428, 429, 97, 532, 533, 534, 535, 536, 537, 28, 538, 105, 106, 107, 108, 109, 110, 111, 112, 245, 246, 247, 248, 30, 464, 465, 466, 467, 468, 469, 32, 470, 253, 254, 255, 256, 539, 423, 424, 425, 342, 343, 344, 345, 196, 197, 198, 199, 341, 192, 193, 194, 430, 304, 305, 306, 431, 432, 433, 434, 435, 436, 437, 438, 652, 653, 671, 672, 673, 674, 675, 676, 677, 678, 661, 662, 663, 664, 665, 666, 667, 668, 669, 670, 679, 680, 681, 682] (by decide +kernel) (by decide +kernel)) (goodIn_sub (fun _ h => List.mem_append_right _ h) (by decide +kernel))
set_option maxRecDepth 20000 in
theorem gL_law_L_catches : GoodIn wsL_law (va_wsS RL 123 yL_catches wsL_catches) := goodIn_app (goodIn_of _ (by decide +kernel)) ggL_law_L_catches
set_option maxRecDepth 20000 in
theorem ggL_law_X5_catches : GoodIn wsL_law wsX5_catches := goodIn_r _ [543, 117, 50, 49, 150, 151, 152, 5, 153, 118, 119, 120, 121, 544, 545, 546, 48, 547, 211, 365, 366, 367, 368, 55, 56, 57, 58, 59, 60, 61, 62, 63, 64, 548, 549, 550, 551, 552, 553, 554, 555, 556, 500, 501, 502, 53, 503, 436, 437, 438, 370, 371, 372, 373, 369, 208, 209, 210, 327, 155, 156, 157, 122, 123, 124, 125, 654, 655, 656, 657, 658, 659, 660, 683, 684, 685, 686, 687, 688, 689, 690, 691, 692, 693, 694, 695, 696, 697, 698] (by decide +kernel) (by decide +kernel)
set_option maxRecDepth 20000 in
theorem gL_law_X5_catches : GoodIn wsL_law (wsV RL 125 RX5 yX5_catches wsX5_catches) := goodIn_app (goodIn_of _ (by decide +kernel)) ggL_law_X5_catches
set_option maxRecDepth 20000 in
theorem ggL_law_L_arrives : GoodIn wsL_law wsL_arrives := goodIn_ca (goodIn_r _ [559, 133, 560, 561, 562, 2, 563, 138, 139, 16, 17, 564, 287, 246, 247, 15, 248, 243, 30, 528, 529, 530, 531, 23, 24, 87, 195, 244, 339, 340, 346, 220, 221, 222, 426, 427, 428, 429, 97, 98, 99, 100, 26, 532, 533, 534, 535, 536, 537, 28, 538, 105, 106, 107, 108, 109, 110, 111, 112, 245, 464, 465, 466, 467, 468, 469, 32, 470, 253, 254, 255, 256, 565, 566, 567, 568, 569, 418, 419, 420, 421, 422, 423, 424, 425, 342, 343, 344, 345, 196, 197, 198, 199, 341, 192, 193, 194, 430, 304, 305, 306, 431, 432, 433, 434, 435, 436, 437, 438, 439, 440, 441, 442, 96, 295, 296, 297, 298, 293, 292, 299, 300, 301, 302, 303, 443, 444, 445, 446, 447, 448, 449, 450, 451, 294, 452, 453, 454, 455, 456, 457, 458, 459, 460, 461, 462, 463, 471, 472, 473, 474, 351, 143, 144, 145, 475, 476, 477, 478, 479, 480, 481, 482, 483, 652, 653, 679, 680, 681, 682, 661, 662, 663, 664, 665, 666, 667, 668, 669, 670, 671, 672, 673, 674, 675, 676, 677, 678] (by decide +kernel) (by decide +kernel)) (goodIn_sub (fun _ h => List.mem_append_right _ h) (by decide +kernel))
set_option maxRecDepth 20000 in
theorem gL_law_L_arrives : GoodIn wsL_law (va_wsS RL 126 yL_arrives wsL_arrives) := goodIn_app (goodIn_of _ (by decide +kernel)) ggL_law_L_arrives
set_option maxRecDepth 20000 in
theorem ggL_law_X5_arrives : GoodIn wsL_law wsX5_arrives := goodIn_r _ [573, 117, 50, 49, 311, 312, 313, 5, 314, 119, 120, 121, 122, 123, 124, 125, 544, 545, 546, 48, 547, 211, 365, 366, 367, 368, 55, 56, 57, 58, 59, 60, 61, 62, 63, 64, 548, 549, 550, 551, 552, 553, 554, 555, 574, 575, 576, 577, 578, 493, 494, 495, 53, 496, 497, 437, 498, 499, 500, 501, 502, 503, 436, 438, 370, 371, 372, 373, 369, 208, 209, 210, 327, 155, 156, 157, 504, 505, 506, 507, 508, 509, 510, 511, 512, 324, 325, 326, 513, 514, 515, 516, 517, 518, 519, 520, 654, 655, 656, 657, 658, 659, 660, 683, 684, 685, 686, 687, 688, 689, 690, 691, 692, 693, 694, 695, 696, 697, 698] (by decide +kernel) (by decide +kernel)
set_option maxRecDepth 20000 in
theorem gL_law_X5_arrives : GoodIn wsL_law (wsV RL 128 RX5 yX5_arrives wsX5_arrives) := goodIn_app (goodIn_of _ (by decide +kernel)) ggL_law_X5_arrives
set_option maxRecDepth 20000 in
theorem ggL_law_L_lasts : GoodIn wsL_law wsL_lasts := goodIn_ca (goodIn_r _ [581, 133, 582, 583, 584, 2, 585, 138, 139, 16, 17, 165, 141, 98, 99, 15, 100, 87, 26, 528, 529, 530, 531, 23, 24, 243, 195, 244, 339, 340, 346, 220, 221, 222, 426, 427, 428, 429, 97, 532, 533, 534, 535, 536, 537, 28, 538, 105, 106, 107, 108, 109, 110, 111, 112, 245, 246, 247, 248, 30, 464, 465, 466, 467, 468, 469, 32, 470, 253, 254, 255, 256, 142, 143, 144, 145, 418, 419, 420, 421, 422, 423, 424, 425, 342, 343, 344, 345, 196, 197, 198, 199, 341, 192, 193, 194, 430, 304, 305, 306, 431, 432, 433, 434, 435, 436, 437, 438, 439, 440, 441, 442, 96, 295, 296, 297, 298, 293, 292, 299, 300, 301, 302, 303, 443, 444, 445, 446, 447, 448, 449, 450, 451, 294, 452, 453, 454, 455, 456, 457, 458, 459, 460, 461, 462, 463, 471, 472, 473, 474, 351, 475, 476, 477, 478, 479, 480, 481, 482, 483, 652, 653, 671, 672, 673, 674, 675, 676, 677, 678, 661, 662, 663, 664, 665, 666, 667, 668, 669, 670, 679, 680, 681, 682] (by decide +kernel) (by decide +kernel)) (goodIn_sub (fun _ h => List.mem_append_right _ h) (by decide +kernel))
set_option maxRecDepth 20000 in
theorem gL_law_L_lasts : GoodIn wsL_law (va_wsS RL 129 yL_lasts wsL_lasts) := goodIn_app (goodIn_of _ (by decide +kernel)) ggL_law_L_lasts
set_option maxRecDepth 20000 in
theorem ggL_law_X5_lasts : GoodIn wsL_law wsX5_lasts := goodIn_r _ [589, 117, 50, 49, 150, 151, 152, 5, 153, 118, 119, 120, 121, 122, 123, 124, 125, 544, 545, 546, 48, 547, 211, 365, 366, 367, 368, 55, 56, 57, 58, 59, 60, 61, 62, 63, 64, 548, 549, 550, 551, 552, 553, 554, 555, 154, 155, 156, 157, 578, 493, 494, 495, 53, 496, 497, 437, 498, 499, 500, 501, 502, 503, 436, 438, 370, 371, 372, 373, 369, 208, 209, 210, 327, 504, 505, 506, 507, 508, 509, 510, 511, 512, 324, 325, 326, 513, 514, 515, 516, 517, 518, 519, 520, 654, 655, 656, 657, 658, 659, 660, 683, 684, 685, 686, 687, 688, 689, 690, 691, 692, 693, 694, 695, 696, 697, 698] (by decide +kernel) (by decide +kernel)
set_option maxRecDepth 20000 in
theorem gL_law_X5_lasts : GoodIn wsL_law (wsV RL 131 RX5 yX5_lasts wsX5_lasts) := goodIn_app (goodIn_of _ (by decide +kernel)) ggL_law_X5_lasts
set_option maxRecDepth 20000 in
theorem ggL_law_L_foresee : GoodIn wsL_law wsL_foresee := goodIn_ca (goodIn_ca (goodIn_r _ [592, 69, 133, 593, 594, 595, 2, 596, 75, 76, 138, 139, 17, 16, 80, 81, 82, 528, 529, 530, 15, 531, 23, 24, 87, 243, 195, 244, 339, 340, 346, 220, 221, 222, 426, 427, 428, 429, 97, 98, 99, 100, 26, 532, 533, 534, 535, 536, 537, 28, 538, 105, 106, 107, 108, 109, 110, 111, 112, 245, 246, 247, 248, 30, 464, 465, 466, 467, 468, 469, 32, 470, 253, 254, 255, 256, 418, 419, 420, 421, 422, 423, 424, 425, 342, 343, 344, 345, 196, 197, 198, 199, 341, 192, 193, 194, 430, 304, 305, 306, 431, 432, 433, 434, 435, 436, 437, 438, 439, 440, 441, 442, 96, 295, 296, 297, 298, 293, 292, 299, 300, 301, 302, 303, 443, 444, 445, 446, 447, 448, 449, 450, 451, 294, 452, 453, 454, 455, 456, 457, 458, 459, 460, 461, 462, 463, 471, 472, 473, 474, 351, 143, 144, 145, 475, 476, 477, 478, 479, 480, 481, 482, 483, 335, 336, 337, 338, 347, 348, 349, 350, 352, 353, 354, 355, 356, 652, 653, 661, 662, 663, 664, 665, 666, 667, 668, 669, 670, 671, 672, 673, 674, 675, 676, 677, 678, 679, 680, 681, 682] (by decide +kernel) (by decide +kernel)) (goodIn_sub (fun _ h => List.mem_append_left _ (List.mem_append_left _ (List.mem_append_right _ h))) (by decide +kernel))) (goodIn_sub (fun _ h => List.mem_append_right _ h) (by decide +kernel))
set_option maxRecDepth 20000 in
theorem gL_law_L_foresee : GoodIn wsL_law (va_wsS RL 132 yL_foresee wsL_foresee) := goodIn_app (goodIn_of _ (by decide +kernel)) ggL_law_L_foresee
set_option maxRecDepth 20000 in
theorem ggL_law_X5_foresee : GoodIn wsL_law wsX5_foresee := goodIn_r _ [600, 117, 50, 49, 119, 120, 5, 121, 122, 123, 124, 125, 544, 545, 546, 48, 547, 211, 365, 366, 367, 368, 55, 56, 57, 58, 59, 60, 61, 62, 63, 64, 548, 549, 550, 551, 552, 553, 554, 555, 488, 489, 490, 491, 492, 493, 494, 495, 53, 496, 497, 437, 498, 499, 500, 501, 502, 503, 436, 438, 370, 371, 372, 373, 369, 208, 209, 210, 327, 155, 156, 157, 504, 505, 506, 507, 508, 509, 510, 511, 512, 324, 325, 326, 513, 514, 515, 516, 517, 518, 519, 520, 361, 362, 363, 364, 22, 374, 375, 376, 377, 378, 379, 380, 381, 654, 655, 656, 657, 658, 659, 660, 683, 684, 685, 686, 687, 688, 689, 690, 691, 692, 693, 694, 695, 696, 697, 698] (by decide +kernel) (by decide +kernel)
set_option maxRecDepth 20000 in
theorem gL_law_X5_foresee : GoodIn wsL_law (wsV RL 134 RX5 yX5_foresee wsX5_foresee) := goodIn_app (goodIn_of _ (by decide +kernel)) ggL_law_X5_foresee
set_option maxRecDepth 20000 in
theorem ggL_law_L_advise : GoodIn wsL_law wsL_advise := goodIn_ca (goodIn_ca (goodIn_r _ [603, 133, 69, 604, 605, 606, 2, 607, 138, 139, 75, 76, 16, 141, 98, 99, 15, 100, 87, 26, 80, 81, 82, 608, 304, 305, 28, 306, 112, 111, 609, 610, 611, 612, 17, 178, 190, 528, 529, 530, 531, 23, 24, 243, 195, 244, 339, 340, 346, 220, 221, 222, 426, 427, 428, 429, 97, 532, 533, 534, 535, 536, 537, 538, 105, 106, 107, 108, 109, 110, 245, 246, 247, 248, 30, 464, 465, 466, 467, 468, 469, 32, 470, 253, 254, 255, 256, 418, 419, 420, 421, 422, 423, 424, 425, 342, 343, 344, 345, 196, 197, 198, 199, 341, 192, 193, 194, 430, 431, 432, 433, 434, 435, 436, 437, 438, 439, 440, 441, 442, 96, 295, 296, 297, 298, 293, 292, 299, 300, 301, 302, 303, 443, 444, 445, 446, 447, 448, 449, 450, 451, 294, 452, 453, 454, 455, 456, 457, 458, 459, 460, 461, 462, 463, 471, 472, 473, 474, 351, 143, 144, 145, 475, 476, 477, 478, 479, 480, 481, 482, 483, 652, 653, 661, 662, 663, 664, 665, 666, 667, 668, 669, 670, 671, 672, 673, 674, 675, 676, 677, 678, 679, 680, 681, 682] (by decide +kernel) (by decide +kernel)) (goodIn_sub (fun _ h => List.mem_append_right _ h) (by decide +kernel))) (goodIn_sub (fun _ h => List.mem_append_left _ (List.mem_append_left _ (List.mem_append_right _ h))) (by decide +kernel))
set_option maxRecDepth 20000 in
theorem gL_law_L_advise : GoodIn wsL_law (va_wsS RL 135 yL_advise wsL_advise) := goodIn_app (goodIn_of _ (by decide +kernel)) ggL_law_L_advise
set_option maxRecDepth 20000 in
theorem ggL_law_X5_advise : GoodIn wsL_law wsX5_advise := goodIn_r _ [616, 117, 50, 49, 150, 151, 152, 5, 153, 118, 119, 120, 121, 122, 123, 124, 125, 544, 545, 546, 48, 547, 211, 365, 366, 367, 368, 55, 56, 57, 58, 59, 60, 61, 62, 63, 64, 548, 549, 550, 551, 552, 553, 554, 555, 488, 489, 490, 491, 492, 493, 494, 495, 53, 496, 497, 437, 498, 499, 500, 501, 502, 503, 436, 438, 370, 371, 372, 373, 369, 208, 209, 210, 327, 155, 156, 157, 504, 505, 506, 507, 508, 509, 510, 511, 512, 324, 325, 326, 513, 514, 515, 516, 517, 518, 519, 520, 654, 655, 656, 657, 658, 659, 660, 683, 684, 685, 686, 687, 688, 689, 690, 691, 692, 693, 694, 695, 696, 697, 698] (by decide +kernel) (by decide +kernel)
set_option maxRecDepth 20000 in
theorem gL_law_X5_advise : GoodIn wsL_law (wsV RL 137 RX5 yX5_advise wsX5_advise) := goodIn_app (goodIn_of _ (by decide +kernel)) ggL_law_X5_advise
set_option maxRecDepth 20000 in
theorem ggL_law_X3_mean : GoodIn wsL_law wsX3_mean := goodIn_r _ [620, 16, 621, 348, 349, 15, 350, 87, 97, 98, 99, 100, 26, 351, 143, 144, 28, 145, 112, 622, 623, 624, 625, 626, 652, 653, 661, 662, 663, 664, 665, 666, 667, 668, 669, 670, 671, 672, 673, 674, 675, 676, 677, 678] (by decide +kernel) (by decide +kernel)
set_option maxRecDepth 20000 in
theorem gL_law_X3_mean : GoodIn wsL_law (wsV RL 138 RX3 yX3_mean wsX3_mean) := goodIn_app (goodIn_of _ (by decide +kernel)) ggL_law_X3_mean
set_option maxRecDepth 20000 in
theorem ggL_law_X5_mean : GoodIn wsL_law wsX5_mean := goodIn_r _ [630, 117, 118, 49, 154, 155, 156, 48, 157, 60, 631, 375, 376, 377, 53, 327, 654, 655, 656, 657, 658, 659, 660, 683, 684, 685, 686, 687, 688, 689, 690, 691, 692, 693, 694, 695, 696, 697, 698] (by decide +kernel) (by decide +kernel)
set_option maxRecDepth 20000 in
theorem gL_law_X5_mean : GoodIn wsL_law (wsV RL 142 RX5 yX5_mean wsX5_mean) := goodIn_app (goodIn_of _ (by decide +kernel)) ggL_law_X5_mean
set_option maxRecDepth 20000 in
theorem ggL_law_X3_digest : GoodIn wsL_law wsX3_digest := goodIn_r _ [635, 636, 637, 16, 335, 336, 337, 15, 338, 195, 87, 243, 244, 339, 340, 341, 192, 193, 194, 196, 197, 198, 199, 342, 343, 344, 345, 346, 220, 221, 222, 23, 347, 348, 349, 350, 97, 98, 99, 100, 26, 351, 143, 144, 28, 145, 112, 352, 353, 354, 355, 356, 219, 638, 639, 640, 2, 641, 79, 141, 268, 269, 270, 271, 105, 106, 107, 108, 109, 110, 111, 642, 643, 644, 645, 238, 287, 246, 247, 248, 30, 288, 289, 290, 291, 292, 293, 294, 295, 296, 297, 298, 96, 299, 300, 301, 302, 303, 304, 305, 306, 652, 653, 661, 662, 663, 664, 665, 666, 667, 668, 669, 670, 671, 672, 673, 674, 675, 676, 677, 678, 679, 680, 681, 682] (by decide +kernel) (by decide +kernel)
set_option maxRecDepth 20000 in
theorem gL_law_X3_digest : GoodIn wsL_law (wsV RL 143 RX3 yX3_digest wsX3_digest) := goodIn_app (goodIn_of _ (by decide +kernel)) ggL_law_X3_digest
set_option maxRecDepth 20000 in
theorem ggL_law_X5_digest : GoodIn wsL_law wsX5_digest := goodIn_r _ [649, 117, 650, 651, 49, 43, 118, 361, 362, 363, 48, 364, 22, 211, 53, 365, 366, 367, 368, 369, 208, 209, 210, 370, 371, 372, 373, 374, 375, 376, 377, 327, 155, 156, 157, 60, 378, 379, 380, 381, 58, 276, 277, 278, 5, 279, 44, 45, 315, 316, 317, 318, 319, 320, 321, 322, 323, 324, 325, 326, 59, 55, 654, 655, 656, 657, 658, 659, 660, 683, 684, 685, 686, 687, 688, 689, 690, 691, 692, 693, 694, 695, 696, 697, 698] (by decide +kernel) (by decide +kernel)
set_option maxRecDepth 20000 in
theorem gL_law_X5_digest : GoodIn wsL_law (wsV RL 147 RX5 yX5_digest wsX5_digest) := goodIn_app (goodIn_of _ (by decide +kernel)) ggL_law_X5_digest
theorem dL_law_0 : decode cL_law 0 = .ok (.new 8, 3) := by decide +kernel
theorem dL_law_3 : decode cL_law 3 = .ok (.dup, 1) := by decide +kernel
theorem dL_law_4 : decode cL_law 4 = .ok (.invokespecial 70, 3) := by decide +kernel
theorem dL_law_7 : decode cL_law 7 = .ok (.astore_n 1, 1) := by decide +kernel
theorem dL_law_8 : decode cL_law 8 = .ok (.new 71, 3) := by decide +kernel
theorem dL_law_11 : decode cL_law 11 = .ok (.dup, 1) := by decide +kernel
theorem dL_law_12 : decode cL_law 12 = .ok (.invokespecial 73, 3) := by decide +kernel
theorem dL_law_15 : decode cL_law 15 = .ok (.astore_n 2, 1) := by decide +kernel
theorem dL_law_16 : decode cL_law 16 = .ok (.iconst 1, 1) := by decide +kernel
theorem dL_law_17 : decode cL_law 17 = .ok (.newarray .long, 2) := by decide +kernel
theorem dL_law_19 : decode cL_law 19 = .ok (.astore_n 3, 1) := by decide +kernel
theorem dL_law_20 : decode cL_law 20 = .ok (.iconst 0, 1) := by decide +kernel
theorem dL_law_21 : decode cL_law 21 = .ok (.istore 4, 2) := by decide +kernel
theorem dL_law_23 : decode cL_law 23 = .ok (.iload 4, 2) := by decide +kernel
theorem dL_law_25 : decode cL_law 25 = .ok (.aload_n 0, 1) := by decide +kernel
theorem dL_law_26 : decode cL_law 26 = .ok (.arraylength, 1) := by decide +kernel
theorem dL_law_27 : decode cL_law 27 = .ok (.iconst 4, 1) := by decide +kernel
theorem dL_law_28 : decode cL_law 28 = .ok (.isub, 1) := by decide +kernel
theorem dL_law_29 : decode cL_law 29 = .ok (.if_icmp .gt 1244, 3) := by decide +kernel
theorem dL_law_32 : decode cL_law 32 = .ok (.aload_n 0, 1) := by decide +kernel
theorem dL_law_33 : decode cL_law 33 = .ok (.iload 4, 2) := by decide +kernel
theorem dL_law_35 : decode cL_law 35 = .ok (.iaload, 1) := by decide +kernel
theorem dL_law_36 : decode cL_law 36 = .ok (.bipush 31, 2) := by decide +kernel
theorem dL_law_38 : decode cL_law 38 = .ok (.iand, 1) := by decide +kernel
theorem dL_law_39 : decode cL_law 39 = .ok (.tableswitch 1228 0 19 #[93, 173, 236, 304, 372, 428, 496, 552, 620, 688, 744, 800, 813, 869, 925, 981, 1037, 1105, 1173, 1214], 93) := by decide +kernel
theorem dL_law_132 : decode cL_law 132 = .ok (.aload_n 1, 1) := by decide +kernel
theorem dL_law_133 : decode cL_law 133 = .ok (.aload_n 0, 1) := by decide +kernel
theorem dL_law_134 : decode cL_law 134 = .ok (.iload 4, 2) := by decide +kernel
theorem dL_law_136 : decode cL_law 136 = .ok (.iconst 1, 1) := by decide +kernel
theorem dL_law_137 : decode cL_law 137 = .ok (.iadd, 1) := by decide +kernel
theorem dL_law_138 : decode cL_law 138 = .ok (.iaload, 1) := by decide +kernel
theorem dL_law_139 : decode cL_law 139 = .ok (.aload_n 0, 1) := by decide +kernel
theorem dL_law_140 : decode cL_law 140 = .ok (.iload 4, 2) := by decide +kernel
theorem dL_law_142 : decode cL_law 142 = .ok (.iconst 2, 1) := by decide +kernel
theorem dL_law_143 : decode cL_law 143 = .ok (.iadd, 1) := by decide +kernel
theorem dL_law_144 : decode cL_law 144 = .ok (.iaload, 1) := by decide +kernel
theorem dL_law_145 : decode cL_law 145 = .ok (.aload_n 0, 1) := by decide +kernel
theorem dL_law_146 : decode cL_law 146 = .ok (.iload 4, 2) := by decide +kernel
theorem dL_law_148 : decode cL_law 148 = .ok (.iconst 3, 1) := by decide +kernel
theorem dL_law_149 : decode cL_law 149 = .ok (.iadd, 1) := by decide +kernel
theorem dL_law_150 : decode cL_law 150 = .ok (.iaload, 1) := by decide +kernel
theorem dL_law_151 : decode cL_law 151 = .ok (.aload_n 3, 1) := by decide +kernel
theorem dL_law_152 : decode cL_law 152 = .ok (.invokestatic 74, 3) := by decide +kernel
theorem dL_law_155 : decode cL_law 155 = .ok (.istore 5, 2) := by decide +kernel
theorem dL_law_157 : decode cL_law 157 = .ok (.aload_n 2, 1) := by decide +kernel
theorem dL_law_158 : decode cL_law 158 = .ok (.aload_n 0, 1) := by decide +kernel
theorem dL_law_159 : decode cL_law 159 = .ok (.iload 4, 2) := by decide +kernel
theorem dL_law_161 : decode cL_law 161 = .ok (.iconst 1, 1) := by decide +kernel
theorem dL_law_162 : decode cL_law 162 = .ok (.iadd, 1) := by decide +kernel
theorem dL_law_163 : decode cL_law 163 = .ok (.iaload, 1) := by decide +kernel
theorem dL_law_164 : decode cL_law 164 = .ok (.aload_n 0, 1) := by decide +kernel
theorem dL_law_165 : decode cL_law 165 = .ok (.iload 4, 2) := by decide +kernel
theorem dL_law_167 : decode cL_law 167 = .ok (.iconst 2, 1) := by decide +kernel
theorem dL_law_168 : decode cL_law 168 = .ok (.iadd, 1) := by decide +kernel
theorem dL_law_169 : decode cL_law 169 = .ok (.iaload, 1) := by decide +kernel
theorem dL_law_170 : decode cL_law 170 = .ok (.aload_n 0, 1) := by decide +kernel
theorem dL_law_171 : decode cL_law 171 = .ok (.iload 4, 2) := by decide +kernel
theorem dL_law_173 : decode cL_law 173 = .ok (.iconst 3, 1) := by decide +kernel
theorem dL_law_174 : decode cL_law 174 = .ok (.iadd, 1) := by decide +kernel
theorem dL_law_175 : decode cL_law 175 = .ok (.iaload, 1) := by decide +kernel
theorem dL_law_176 : decode cL_law 176 = .ok (.invokevirtual 79, 3) := by decide +kernel
theorem dL_law_179 : decode cL_law 179 = .ok (.istore 6, 2) := by decide +kernel
theorem dL_law_181 : decode cL_law 181 = .ok (.aload_n 2, 1) := by decide +kernel
theorem dL_law_182 : decode cL_law 182 = .ok (.invokevirtual 80, 3) := by decide +kernel
theorem dL_law_185 : decode cL_law 185 = .ok (.iload 5, 2) := by decide +kernel
theorem dL_law_187 : decode cL_law 187 = .ok (.if_icmp .eq 5, 3) := by decide +kernel
theorem dL_law_190 : decode cL_law 190 = .ok (.iconst 0, 1) := by decide +kernel
theorem dL_law_191 : decode cL_law 191 = .ok (.ireturn, 1) := by decide +kernel
theorem dL_law_192 : decode cL_law 192 = .ok (.iload 5, 2) := by decide +kernel
theorem dL_law_194 : decode cL_law 194 = .ok (.ifCond .ne 15, 3) := by decide +kernel
theorem dL_law_197 : decode cL_law 197 = .ok (.aload_n 3, 1) := by decide +kernel
theorem dL_law_198 : decode cL_law 198 = .ok (.iconst 0, 1) := by decide +kernel
theorem dL_law_199 : decode cL_law 199 = .ok (.laload, 1) := by decide +kernel
theorem dL_law_200 : decode cL_law 200 = .ok (.iload 6, 2) := by decide +kernel
theorem dL_law_202 : decode cL_law 202 = .ok (.i2l, 1) := by decide +kernel
theorem dL_law_203 : decode cL_law 203 = .ok (.lcmp, 1) := by decide +kernel
theorem dL_law_204 : decode cL_law 204 = .ok (.ifCond .eq 5, 3) := by decide +kernel
theorem dL_law_207 : decode cL_law 207 = .ok (.iconst 0, 1) := by decide +kernel
theorem dL_law_208 : decode cL_law 208 = .ok (.ireturn, 1) := by decide +kernel
theorem dL_law_209 : decode cL_law 209 = .ok (.goto 1058, 3) := by decide +kernel
theorem dL_law_212 : decode cL_law 212 = .ok (.aload_n 1, 1) := by decide +kernel
theorem dL_law_213 : decode cL_law 213 = .ok (.aload_n 0, 1) := by decide +kernel
theorem dL_law_214 : decode cL_law 214 = .ok (.iload 4, 2) := by decide +kernel
theorem dL_law_216 : decode cL_law 216 = .ok (.iconst 1, 1) := by decide +kernel
theorem dL_law_217 : decode cL_law 217 = .ok (.iadd, 1) := by decide +kernel
theorem dL_law_218 : decode cL_law 218 = .ok (.iaload, 1) := by decide +kernel
theorem dL_law_219 : decode cL_law 219 = .ok (.aload_n 3, 1) := by decide +kernel
theorem dL_law_220 : decode cL_law 220 = .ok (.invokestatic 84, 3) := by decide +kernel
theorem dL_law_223 : decode cL_law 223 = .ok (.istore 5, 2) := by decide +kernel
theorem dL_law_225 : decode cL_law 225 = .ok (.aload_n 2, 1) := by decide +kernel
theorem dL_law_226 : decode cL_law 226 = .ok (.aload_n 0, 1) := by decide +kernel
theorem dL_law_227 : decode cL_law 227 = .ok (.iload 4, 2) := by decide +kernel
theorem dL_law_229 : decode cL_law 229 = .ok (.iconst 1, 1) := by decide +kernel
theorem dL_law_230 : decode cL_law 230 = .ok (.iadd, 1) := by decide +kernel
theorem dL_law_231 : decode cL_law 231 = .ok (.iaload, 1) := by decide +kernel
theorem dL_law_232 : decode cL_law 232 = .ok (.invokevirtual 87, 3) := by decide +kernel
theorem dL_law_235 : decode cL_law 235 = .ok (.istore 6, 2) := by decide +kernel
theorem dL_law_237 : decode cL_law 237 = .ok (.aload_n 2, 1) := by decide +kernel
theorem dL_law_238 : decode cL_law 238 = .ok (.invokevirtual 80, 3) := by decide +kernel
theorem dL_law_241 : decode cL_law 241 = .ok (.iload 5, 2) := by decide +kernel
theorem dL_law_243 : decode cL_law 243 = .ok (.if_icmp .eq 5, 3) := by decide +kernel
theorem dL_law_246 : decode cL_law 246 = .ok (.iconst 0, 1) := by decide +kernel
theorem dL_law_247 : decode cL_law 247 = .ok (.ireturn, 1) := by decide +kernel
theorem dL_law_248 : decode cL_law 248 = .ok (.iload 5, 2) := by decide +kernel
theorem dL_law_250 : decode cL_law 250 = .ok (.ifCond .ne 22, 3) := by decide +kernel
theorem dL_law_253 : decode cL_law 253 = .ok (.aload_n 3, 1) := by decide +kernel
theorem dL_law_254 : decode cL_law 254 = .ok (.iconst 0, 1) := by decide +kernel
theorem dL_law_255 : decode cL_law 255 = .ok (.laload, 1) := by decide +kernel
theorem dL_law_256 : decode cL_law 256 = .ok (.iload 6, 2) := by decide +kernel
theorem dL_law_258 : decode cL_law 258 = .ok (.ifCond .eq 7, 3) := by decide +kernel
theorem dL_law_261 : decode cL_law 261 = .ok (.lconst 1, 1) := by decide +kernel
theorem dL_law_262 : decode cL_law 262 = .ok (.goto 4, 3) := by decide +kernel
theorem dL_law_265 : decode cL_law 265 = .ok (.lconst 0, 1) := by decide +kernel
theorem dL_law_266 : decode cL_law 266 = .ok (.lcmp, 1) := by decide +kernel
theorem dL_law_267 : decode cL_law 267 = .ok (.ifCond .eq 5, 3) := by decide +kernel
theorem dL_law_270 : decode cL_law 270 = .ok (.iconst 0, 1) := by decide +kernel
theorem dL_law_271 : decode cL_law 271 = .ok (.ireturn, 1) := by decide +kernel
theorem dL_law_272 : decode cL_law 272 = .ok (.goto 995, 3) := by decide +kernel
theorem dL_law_275 : decode cL_law 275 = .ok (.aload_n 1, 1) := by decide +kernel
theorem dL_law_276 : decode cL_law 276 = .ok (.aload_n 0, 1) := by decide +kernel
theorem dL_law_277 : decode cL_law 277 = .ok (.iload 4, 2) := by decide +kernel
theorem dL_law_279 : decode cL_law 279 = .ok (.iconst 1, 1) := by decide +kernel
theorem dL_law_280 : decode cL_law 280 = .ok (.iadd, 1) := by decide +kernel
theorem dL_law_281 : decode cL_law 281 = .ok (.iaload, 1) := by decide +kernel
theorem dL_law_282 : decode cL_law 282 = .ok (.aload_n 0, 1) := by decide +kernel
theorem dL_law_283 : decode cL_law 283 = .ok (.iload 4, 2) := by decide +kernel
theorem dL_law_285 : decode cL_law 285 = .ok (.iconst 2, 1) := by decide +kernel
theorem dL_law_286 : decode cL_law 286 = .ok (.iadd, 1) := by decide +kernel
theorem dL_law_287 : decode cL_law 287 = .ok (.iaload, 1) := by decide +kernel
theorem dL_law_288 : decode cL_law 288 = .ok (.aload_n 3, 1) := by decide +kernel
theorem dL_law_289 : decode cL_law 289 = .ok (.invokestatic 88, 3) := by decide +kernel
theorem dL_law_292 : decode cL_law 292 = .ok (.istore 5, 2) := by decide +kernel
theorem dL_law_294 : decode cL_law 294 = .ok (.aload_n 2, 1) := by decide +kernel
theorem dL_law_295 : decode cL_law 295 = .ok (.aload_n 0, 1) := by decide +kernel
theorem dL_law_296 : decode cL_law 296 = .ok (.iload 4, 2) := by decide +kernel
theorem dL_law_298 : decode cL_law 298 = .ok (.iconst 1, 1) := by decide +kernel
theorem dL_law_299 : decode cL_law 299 = .ok (.iadd, 1) := by decide +kernel
theorem dL_law_300 : decode cL_law 300 = .ok (.iaload, 1) := by decide +kernel
theorem dL_law_301 : decode cL_law 301 = .ok (.aload_n 0, 1) := by decide +kernel
theorem dL_law_302 : decode cL_law 302 = .ok (.iload 4, 2) := by decide +kernel
theorem dL_law_304 : decode cL_law 304 = .ok (.iconst 2, 1) := by decide +kernel
theorem dL_law_305 : decode cL_law 305 = .ok (.iadd, 1) := by decide +kernel
theorem dL_law_306 : decode cL_law 306 = .ok (.iaload, 1) := by decide +kernel
theorem dL_law_307 : decode cL_law 307 = .ok (.invokevirtual 91, 3) := by decide +kernel
theorem dL_law_310 : decode cL_law 310 = .ok (.istore 6, 2) := by decide +kernel
theorem dL_law_312 : decode cL_law 312 = .ok (.aload_n 2, 1) := by decide +kernel
theorem dL_law_313 : decode cL_law 313 = .ok (.invokevirtual 80, 3) := by decide +kernel
theorem dL_law_316 : decode cL_law 316 = .ok (.iload 5, 2) := by decide +kernel
theorem dL_law_318 : decode cL_law 318 = .ok (.if_icmp .eq 5, 3) := by decide +kernel
theorem dL_law_321 : decode cL_law 321 = .ok (.iconst 0, 1) := by decide +kernel
theorem dL_law_322 : decode cL_law 322 = .ok (.ireturn, 1) := by decide +kernel
theorem dL_law_323 : decode cL_law 323 = .ok (.iload 5, 2) := by decide +kernel
theorem dL_law_325 : decode cL_law 325 = .ok (.ifCond .ne 15, 3) := by decide +kernel
theorem dL_law_328 : decode cL_law 328 = .ok (.aload_n 3, 1) := by decide +kernel
theorem dL_law_329 : decode cL_law 329 = .ok (.iconst 0, 1) := by decide +kernel
theorem dL_law_330 : decode cL_law 330 = .ok (.laload, 1) := by decide +kernel
theorem dL_law_331 : decode cL_law 331 = .ok (.iload 6, 2) := by decide +kernel
theorem dL_law_333 : decode cL_law 333 = .ok (.i2l, 1) := by decide +kernel
theorem dL_law_334 : decode cL_law 334 = .ok (.lcmp, 1) := by decide +kernel
theorem dL_law_335 : decode cL_law 335 = .ok (.ifCond .eq 5, 3) := by decide +kernel
theorem dL_law_338 : decode cL_law 338 = .ok (.iconst 0, 1) := by decide +kernel
theorem dL_law_339 : decode cL_law 339 = .ok (.ireturn, 1) := by decide +kernel
theorem dL_law_340 : decode cL_law 340 = .ok (.goto 927, 3) := by decide +kernel
theorem dL_law_343 : decode cL_law 343 = .ok (.aload_n 1, 1) := by decide +kernel
theorem dL_law_344 : decode cL_law 344 = .ok (.aload_n 0, 1) := by decide +kernel
theorem dL_law_345 : decode cL_law 345 = .ok (.iload 4, 2) := by decide +kernel
theorem dL_law_347 : decode cL_law 347 = .ok (.iconst 1, 1) := by decide +kernel
theorem dL_law_348 : decode cL_law 348 = .ok (.iadd, 1) := by decide +kernel
theorem dL_law_349 : decode cL_law 349 = .ok (.iaload, 1) := by decide +kernel
theorem dL_law_350 : decode cL_law 350 = .ok (.aload_n 0, 1) := by decide +kernel
theorem dL_law_351 : decode cL_law 351 = .ok (.iload 4, 2) := by decide +kernel
theorem dL_law_353 : decode cL_law 353 = .ok (.iconst 2, 1) := by decide +kernel
theorem dL_law_354 : decode cL_law 354 = .ok (.iadd, 1) := by decide +kernel
theorem dL_law_355 : decode cL_law 355 = .ok (.iaload, 1) := by decide +kernel
theorem dL_law_356 : decode cL_law 356 = .ok (.aload_n 3, 1) := by decide +kernel
theorem dL_law_357 : decode cL_law 357 = .ok (.invokestatic 92, 3) := by decide +kernel
theorem dL_law_360 : decode cL_law 360 = .ok (.istore 5, 2) := by decide +kernel
theorem dL_law_362 : decode cL_law 362 = .ok (.aload_n 2, 1) := by decide +kernel
theorem dL_law_363 : decode cL_law 363 = .ok (.aload_n 0, 1) := by decide +kernel
theorem dL_law_364 : decode cL_law 364 = .ok (.iload 4, 2) := by decide +kernel
theorem dL_law_366 : decode cL_law 366 = .ok (.iconst 1, 1) := by decide +kernel
theorem dL_law_367 : decode cL_law 367 = .ok (.iadd, 1) := by decide +kernel
theorem dL_law_368 : decode cL_law 368 = .ok (.iaload, 1) := by decide +kernel
theorem dL_law_369 : decode cL_law 369 = .ok (.aload_n 0, 1) := by decide +kernel
theorem dL_law_370 : decode cL_law 370 = .ok (.iload 4, 2) := by decide +kernel
theorem dL_law_372 : decode cL_law 372 = .ok (.iconst 2, 1) := by decide +kernel
theorem dL_law_373 : decode cL_law 373 = .ok (.iadd, 1) := by decide +kernel
theorem dL_law_374 : decode cL_law 374 = .ok (.iaload, 1) := by decide +kernel
theorem dL_law_375 : decode cL_law 375 = .ok (.invokevirtual 94, 3) := by decide +kernel
theorem dL_law_378 : decode cL_law 378 = .ok (.istore 6, 2) := by decide +kernel
theorem dL_law_380 : decode cL_law 380 = .ok (.aload_n 2, 1) := by decide +kernel
theorem dL_law_381 : decode cL_law 381 = .ok (.invokevirtual 80, 3) := by decide +kernel
theorem dL_law_384 : decode cL_law 384 = .ok (.iload 5, 2) := by decide +kernel
theorem dL_law_386 : decode cL_law 386 = .ok (.if_icmp .eq 5, 3) := by decide +kernel
theorem dL_law_389 : decode cL_law 389 = .ok (.iconst 0, 1) := by decide +kernel
theorem dL_law_390 : decode cL_law 390 = .ok (.ireturn, 1) := by decide +kernel
theorem dL_law_391 : decode cL_law 391 = .ok (.iload 5, 2) := by decide +kernel
theorem dL_law_393 : decode cL_law 393 = .ok (.ifCond .ne 15, 3) := by decide +kernel
theorem dL_law_396 : decode cL_law 396 = .ok (.aload_n 3, 1) := by decide +kernel
theorem dL_law_397 : decode cL_law 397 = .ok (.iconst 0, 1) := by decide +kernel
theorem dL_law_398 : decode cL_law 398 = .ok (.laload, 1) := by decide +kernel
theorem dL_law_399 : decode cL_law 399 = .ok (.iload 6, 2) := by decide +kernel
theorem dL_law_401 : decode cL_law 401 = .ok (.i2l, 1) := by decide +kernel
theorem dL_law_402 : decode cL_law 402 = .ok (.lcmp, 1) := by decide +kernel
theorem dL_law_403 : decode cL_law 403 = .ok (.ifCond .eq 5, 3) := by decide +kernel
theorem dL_law_406 : decode cL_law 406 = .ok (.iconst 0, 1) := by decide +kernel
theorem dL_law_407 : decode cL_law 407 = .ok (.ireturn, 1) := by decide +kernel
theorem dL_law_408 : decode cL_law 408 = .ok (.goto 859, 3) := by decide +kernel
theorem dL_law_411 : decode cL_law 411 = .ok (.aload_n 1, 1) := by decide +kernel
theorem dL_law_412 : decode cL_law 412 = .ok (.aload_n 0, 1) := by decide +kernel
theorem dL_law_413 : decode cL_law 413 = .ok (.iload 4, 2) := by decide +kernel
theorem dL_law_415 : decode cL_law 415 = .ok (.iconst 1, 1) := by decide +kernel
theorem dL_law_416 : decode cL_law 416 = .ok (.iadd, 1) := by decide +kernel
theorem dL_law_417 : decode cL_law 417 = .ok (.iaload, 1) := by decide +kernel
theorem dL_law_418 : decode cL_law 418 = .ok (.aload_n 3, 1) := by decide +kernel
theorem dL_law_419 : decode cL_law 419 = .ok (.invokestatic 95, 3) := by decide +kernel
theorem dL_law_422 : decode cL_law 422 = .ok (.istore 5, 2) := by decide +kernel
theorem dL_law_424 : decode cL_law 424 = .ok (.aload_n 2, 1) := by decide +kernel
theorem dL_law_425 : decode cL_law 425 = .ok (.aload_n 0, 1) := by decide +kernel
theorem dL_law_426 : decode cL_law 426 = .ok (.iload 4, 2) := by decide +kernel
theorem dL_law_428 : decode cL_law 428 = .ok (.iconst 1, 1) := by decide +kernel
theorem dL_law_429 : decode cL_law 429 = .ok (.iadd, 1) := by decide +kernel
theorem dL_law_430 : decode cL_law 430 = .ok (.iaload, 1) := by decide +kernel
theorem dL_law_431 : decode cL_law 431 = .ok (.invokevirtual 97, 3) := by decide +kernel
theorem dL_law_434 : decode cL_law 434 = .ok (.istore 6, 2) := by decide +kernel
theorem dL_law_436 : decode cL_law 436 = .ok (.aload_n 2, 1) := by decide +kernel
theorem dL_law_437 : decode cL_law 437 = .ok (.invokevirtual 80, 3) := by decide +kernel
theorem dL_law_440 : decode cL_law 440 = .ok (.iload 5, 2) := by decide +kernel
theorem dL_law_442 : decode cL_law 442 = .ok (.if_icmp .eq 5, 3) := by decide +kernel
theorem dL_law_445 : decode cL_law 445 = .ok (.iconst 0, 1) := by decide +kernel
theorem dL_law_446 : decode cL_law 446 = .ok (.ireturn, 1) := by decide +kernel
theorem dL_law_447 : decode cL_law 447 = .ok (.iload 5, 2) := by decide +kernel
theorem dL_law_449 : decode cL_law 449 = .ok (.ifCond .ne 15, 3) := by decide +kernel
theorem dL_law_452 : decode cL_law 452 = .ok (.aload_n 3, 1) := by decide +kernel
theorem dL_law_453 : decode cL_law 453 = .ok (.iconst 0, 1) := by decide +kernel
theorem dL_law_454 : decode cL_law 454 = .ok (.laload, 1) := by decide +kernel
theorem dL_law_455 : decode cL_law 455 = .ok (.iload 6, 2) := by decide +kernel
theorem dL_law_457 : decode cL_law 457 = .ok (.i2l, 1) := by decide +kernel
theorem dL_law_458 : decode cL_law 458 = .ok (.lcmp, 1) := by decide +kernel
theorem dL_law_459 : decode cL_law 459 = .ok (.ifCond .eq 5, 3) := by decide +kernel
theorem dL_law_462 : decode cL_law 462 = .ok (.iconst 0, 1) := by decide +kernel
theorem dL_law_463 : decode cL_law 463 = .ok (.ireturn, 1) := by decide +kernel
theorem dL_law_464 : decode cL_law 464 = .ok (.goto 803, 3) := by decide +kernel
theorem dL_law_467 : decode cL_law 467 = .ok (.aload_n 1, 1) := by decide +kernel
theorem dL_law_468 : decode cL_law 468 = .ok (.aload_n 0, 1) := by decide +kernel
theorem dL_law_469 : decode cL_law 469 = .ok (.iload 4, 2) := by decide +kernel
theorem dL_law_471 : decode cL_law 471 = .ok (.iconst 1, 1) := by decide +kernel
theorem dL_law_472 : decode cL_law 472 = .ok (.iadd, 1) := by decide +kernel
theorem dL_law_473 : decode cL_law 473 = .ok (.iaload, 1) := by decide +kernel
theorem dL_law_474 : decode cL_law 474 = .ok (.aload_n 0, 1) := by decide +kernel
theorem dL_law_475 : decode cL_law 475 = .ok (.iload 4, 2) := by decide +kernel
theorem dL_law_477 : decode cL_law 477 = .ok (.iconst 2, 1) := by decide +kernel
theorem dL_law_478 : decode cL_law 478 = .ok (.iadd, 1) := by decide +kernel
theorem dL_law_479 : decode cL_law 479 = .ok (.iaload, 1) := by decide +kernel
theorem dL_law_480 : decode cL_law 480 = .ok (.aload_n 3, 1) := by decide +kernel
theorem dL_law_481 : decode cL_law 481 = .ok (.invokestatic 98, 3) := by decide +kernel
theorem dL_law_484 : decode cL_law 484 = .ok (.istore 5, 2) := by decide +kernel
theorem dL_law_486 : decode cL_law 486 = .ok (.aload_n 2, 1) := by decide +kernel
theorem dL_law_487 : decode cL_law 487 = .ok (.aload_n 0, 1) := by decide +kernel
theorem dL_law_488 : decode cL_law 488 = .ok (.iload 4, 2) := by decide +kernel
theorem dL_law_490 : decode cL_law 490 = .ok (.iconst 1, 1) := by decide +kernel
theorem dL_law_491 : decode cL_law 491 = .ok (.iadd, 1) := by decide +kernel
theorem dL_law_492 : decode cL_law 492 = .ok (.iaload, 1) := by decide +kernel
theorem dL_law_493 : decode cL_law 493 = .ok (.aload_n 0, 1) := by decide +kernel
theorem dL_law_494 : decode cL_law 494 = .ok (.iload 4, 2) := by decide +kernel
theorem dL_law_496 : decode cL_law 496 = .ok (.iconst 2, 1) := by decide +kernel
theorem dL_law_497 : decode cL_law 497 = .ok (.iadd, 1) := by decide +kernel
theorem dL_law_498 : decode cL_law 498 = .ok (.iaload, 1) := by decide +kernel
theorem dL_law_499 : decode cL_law 499 = .ok (.invokevirtual 100, 3) := by decide +kernel
theorem dL_law_502 : decode cL_law 502 = .ok (.istore 6, 2) := by decide +kernel
theorem dL_law_504 : decode cL_law 504 = .ok (.aload_n 2, 1) := by decide +kernel
theorem dL_law_505 : decode cL_law 505 = .ok (.invokevirtual 80, 3) := by decide +kernel
theorem dL_law_508 : decode cL_law 508 = .ok (.iload 5, 2) := by decide +kernel
theorem dL_law_510 : decode cL_law 510 = .ok (.if_icmp .eq 5, 3) := by decide +kernel
theorem dL_law_513 : decode cL_law 513 = .ok (.iconst 0, 1) := by decide +kernel
theorem dL_law_514 : decode cL_law 514 = .ok (.ireturn, 1) := by decide +kernel
theorem dL_law_515 : decode cL_law 515 = .ok (.iload 5, 2) := by decide +kernel
theorem dL_law_517 : decode cL_law 517 = .ok (.ifCond .ne 15, 3) := by decide +kernel
theorem dL_law_520 : decode cL_law 520 = .ok (.aload_n 3, 1) := by decide +kernel
theorem dL_law_521 : decode cL_law 521 = .ok (.iconst 0, 1) := by decide +kernel
theorem dL_law_522 : decode cL_law 522 = .ok (.laload, 1) := by decide +kernel
theorem dL_law_523 : decode cL_law 523 = .ok (.iload 6, 2) := by decide +kernel
theorem dL_law_525 : decode cL_law 525 = .ok (.i2l, 1) := by decide +kernel
theorem dL_law_526 : decode cL_law 526 = .ok (.lcmp, 1) := by decide +kernel
theorem dL_law_527 : decode cL_law 527 = .ok (.ifCond .eq 5, 3) := by decide +kernel
theorem dL_law_530 : decode cL_law 530 = .ok (.iconst 0, 1) := by decide +kernel
theorem dL_law_531 : decode cL_law 531 = .ok (.ireturn, 1) := by decide +kernel
theorem dL_law_532 : decode cL_law 532 = .ok (.goto 735, 3) := by decide +kernel
theorem dL_law_535 : decode cL_law 535 = .ok (.aload_n 1, 1) := by decide +kernel
theorem dL_law_536 : decode cL_law 536 = .ok (.aload_n 0, 1) := by decide +kernel
theorem dL_law_537 : decode cL_law 537 = .ok (.iload 4, 2) := by decide +kernel
theorem dL_law_539 : decode cL_law 539 = .ok (.iconst 1, 1) := by decide +kernel
theorem dL_law_540 : decode cL_law 540 = .ok (.iadd, 1) := by decide +kernel
theorem dL_law_541 : decode cL_law 541 = .ok (.iaload, 1) := by decide +kernel
theorem dL_law_542 : decode cL_law 542 = .ok (.aload_n 3, 1) := by decide +kernel
theorem dL_law_543 : decode cL_law 543 = .ok (.invokestatic 101, 3) := by decide +kernel
theorem dL_law_546 : decode cL_law 546 = .ok (.istore 5, 2) := by decide +kernel
theorem dL_law_548 : decode cL_law 548 = .ok (.aload_n 2, 1) := by decide +kernel
theorem dL_law_549 : decode cL_law 549 = .ok (.aload_n 0, 1) := by decide +kernel
theorem dL_law_550 : decode cL_law 550 = .ok (.iload 4, 2) := by decide +kernel
theorem dL_law_552 : decode cL_law 552 = .ok (.iconst 1, 1) := by decide +kernel
theorem dL_law_553 : decode cL_law 553 = .ok (.iadd, 1) := by decide +kernel
theorem dL_law_554 : decode cL_law 554 = .ok (.iaload, 1) := by decide +kernel
theorem dL_law_555 : decode cL_law 555 = .ok (.invokevirtual 103, 3) := by decide +kernel
theorem dL_law_558 : decode cL_law 558 = .ok (.istore 6, 2) := by decide +kernel
theorem dL_law_560 : decode cL_law 560 = .ok (.aload_n 2, 1) := by decide +kernel
theorem dL_law_561 : decode cL_law 561 = .ok (.invokevirtual 80, 3) := by decide +kernel
theorem dL_law_564 : decode cL_law 564 = .ok (.iload 5, 2) := by decide +kernel
theorem dL_law_566 : decode cL_law 566 = .ok (.if_icmp .eq 5, 3) := by decide +kernel
theorem dL_law_569 : decode cL_law 569 = .ok (.iconst 0, 1) := by decide +kernel
theorem dL_law_570 : decode cL_law 570 = .ok (.ireturn, 1) := by decide +kernel
theorem dL_law_571 : decode cL_law 571 = .ok (.iload 5, 2) := by decide +kernel
theorem dL_law_573 : decode cL_law 573 = .ok (.ifCond .ne 15, 3) := by decide +kernel
theorem dL_law_576 : decode cL_law 576 = .ok (.aload_n 3, 1) := by decide +kernel
theorem dL_law_577 : decode cL_law 577 = .ok (.iconst 0, 1) := by decide +kernel
theorem dL_law_578 : decode cL_law 578 = .ok (.laload, 1) := by decide +kernel
theorem dL_law_579 : decode cL_law 579 = .ok (.iload 6, 2) := by decide +kernel
theorem dL_law_581 : decode cL_law 581 = .ok (.i2l, 1) := by decide +kernel
theorem dL_law_582 : decode cL_law 582 = .ok (.lcmp, 1) := by decide +kernel
theorem dL_law_583 : decode cL_law 583 = .ok (.ifCond .eq 5, 3) := by decide +kernel
theorem dL_law_586 : decode cL_law 586 = .ok (.iconst 0, 1) := by decide +kernel
theorem dL_law_587 : decode cL_law 587 = .ok (.ireturn, 1) := by decide +kernel
theorem dL_law_588 : decode cL_law 588 = .ok (.goto 679, 3) := by decide +kernel
theorem dL_law_591 : decode cL_law 591 = .ok (.aload_n 1, 1) := by decide +kernel
theorem dL_law_592 : decode cL_law 592 = .ok (.aload_n 0, 1) := by decide +kernel
theorem dL_law_593 : decode cL_law 593 = .ok (.iload 4, 2) := by decide +kernel
theorem dL_law_595 : decode cL_law 595 = .ok (.iconst 1, 1) := by decide +kernel
theorem dL_law_596 : decode cL_law 596 = .ok (.iadd, 1) := by decide +kernel
theorem dL_law_597 : decode cL_law 597 = .ok (.iaload, 1) := by decide +kernel
theorem dL_law_598 : decode cL_law 598 = .ok (.aload_n 0, 1) := by decide +kernel
theorem dL_law_599 : decode cL_law 599 = .ok (.iload 4, 2) := by decide +kernel
theorem dL_law_601 : decode cL_law 601 = .ok (.iconst 2, 1) := by decide +kernel
theorem dL_law_602 : decode cL_law 602 = .ok (.iadd, 1) := by decide +kernel
theorem dL_law_603 : decode cL_law 603 = .ok (.iaload, 1) := by decide +kernel
theorem dL_law_604 : decode cL_law 604 = .ok (.aload_n 3, 1) := by decide +kernel
theorem dL_law_605 : decode cL_law 605 = .ok (.invokestatic 104, 3) := by decide +kernel
theorem dL_law_608 : decode cL_law 608 = .ok (.istore 5, 2) := by decide +kernel
theorem dL_law_610 : decode cL_law 610 = .ok (.aload_n 2, 1) := by decide +kernel
theorem dL_law_611 : decode cL_law 611 = .ok (.aload_n 0, 1) := by decide +kernel
theorem dL_law_612 : decode cL_law 612 = .ok (.iload 4, 2) := by decide +kernel
theorem dL_law_614 : decode cL_law 614 = .ok (.iconst 1, 1) := by decide +kernel
theorem dL_law_615 : decode cL_law 615 = .ok (.iadd, 1) := by decide +kernel
theorem dL_law_616 : decode cL_law 616 = .ok (.iaload, 1) := by decide +kernel
theorem dL_law_617 : decode cL_law 617 = .ok (.aload_n 0, 1) := by decide +kernel
theorem dL_law_618 : decode cL_law 618 = .ok (.iload 4, 2) := by decide +kernel
theorem dL_law_620 : decode cL_law 620 = .ok (.iconst 2, 1) := by decide +kernel
theorem dL_law_621 : decode cL_law 621 = .ok (.iadd, 1) := by decide +kernel
theorem dL_law_622 : decode cL_law 622 = .ok (.iaload, 1) := by decide +kernel
theorem dL_law_623 : decode cL_law 623 = .ok (.invokevirtual 106, 3) := by decide +kernel
theorem dL_law_626 : decode cL_law 626 = .ok (.istore 6, 2) := by decide +kernel
theorem dL_law_628 : decode cL_law 628 = .ok (.aload_n 2, 1) := by decide +kernel
theorem dL_law_629 : decode cL_law 629 = .ok (.invokevirtual 80, 3) := by decide +kernel
theorem dL_law_632 : decode cL_law 632 = .ok (.iload 5, 2) := by decide +kernel
theorem dL_law_634 : decode cL_law 634 = .ok (.if_icmp .eq 5, 3) := by decide +kernel
theorem dL_law_637 : decode cL_law 637 = .ok (.iconst 0, 1) := by decide +kernel
theorem dL_law_638 : decode cL_law 638 = .ok (.ireturn, 1) := by decide +kernel
theorem dL_law_639 : decode cL_law 639 = .ok (.iload 5, 2) := by decide +kernel
theorem dL_law_641 : decode cL_law 641 = .ok (.ifCond .ne 15, 3) := by decide +kernel
theorem dL_law_644 : decode cL_law 644 = .ok (.aload_n 3, 1) := by decide +kernel
theorem dL_law_645 : decode cL_law 645 = .ok (.iconst 0, 1) := by decide +kernel
theorem dL_law_646 : decode cL_law 646 = .ok (.laload, 1) := by decide +kernel
theorem dL_law_647 : decode cL_law 647 = .ok (.iload 6, 2) := by decide +kernel
theorem dL_law_649 : decode cL_law 649 = .ok (.i2l, 1) := by decide +kernel
theorem dL_law_650 : decode cL_law 650 = .ok (.lcmp, 1) := by decide +kernel
theorem dL_law_651 : decode cL_law 651 = .ok (.ifCond .eq 5, 3) := by decide +kernel
theorem dL_law_654 : decode cL_law 654 = .ok (.iconst 0, 1) := by decide +kernel
theorem dL_law_655 : decode cL_law 655 = .ok (.ireturn, 1) := by decide +kernel
theorem dL_law_656 : decode cL_law 656 = .ok (.goto 611, 3) := by decide +kernel
theorem dL_law_659 : decode cL_law 659 = .ok (.aload_n 1, 1) := by decide +kernel
theorem dL_law_660 : decode cL_law 660 = .ok (.aload_n 0, 1) := by decide +kernel
theorem dL_law_661 : decode cL_law 661 = .ok (.iload 4, 2) := by decide +kernel
theorem dL_law_663 : decode cL_law 663 = .ok (.iconst 1, 1) := by decide +kernel
theorem dL_law_664 : decode cL_law 664 = .ok (.iadd, 1) := by decide +kernel
theorem dL_law_665 : decode cL_law 665 = .ok (.iaload, 1) := by decide +kernel
theorem dL_law_666 : decode cL_law 666 = .ok (.aload_n 0, 1) := by decide +kernel
theorem dL_law_667 : decode cL_law 667 = .ok (.iload 4, 2) := by decide +kernel
theorem dL_law_669 : decode cL_law 669 = .ok (.iconst 2, 1) := by decide +kernel
theorem dL_law_670 : decode cL_law 670 = .ok (.iadd, 1) := by decide +kernel
theorem dL_law_671 : decode cL_law 671 = .ok (.iaload, 1) := by decide +kernel
theorem dL_law_672 : decode cL_law 672 = .ok (.aload_n 3, 1) := by decide +kernel
theorem dL_law_673 : decode cL_law 673 = .ok (.invokestatic 107, 3) := by decide +kernel
theorem dL_law_676 : decode cL_law 676 = .ok (.istore 5, 2) := by decide +kernel
theorem dL_law_678 : decode cL_law 678 = .ok (.aload_n 2, 1) := by decide +kernel
theorem dL_law_679 : decode cL_law 679 = .ok (.aload_n 0, 1) := by decide +kernel
theorem dL_law_680 : decode cL_law 680 = .ok (.iload 4, 2) := by decide +kernel
theorem dL_law_682 : decode cL_law 682 = .ok (.iconst 1, 1) := by decide +kernel
theorem dL_law_683 : decode cL_law 683 = .ok (.iadd, 1) := by decide +kernel
theorem dL_law_684 : decode cL_law 684 = .ok (.iaload, 1) := by decide +kernel
theorem dL_law_685 : decode cL_law 685 = .ok (.aload_n 0, 1) := by decide +kernel
theorem dL_law_686 : decode cL_law 686 = .ok (.iload 4, 2) := by decide +kernel
theorem dL_law_688 : decode cL_law 688 = .ok (.iconst 2, 1) := by decide +kernel
theorem dL_law_689 : decode cL_law 689 = .ok (.iadd, 1) := by decide +kernel
theorem dL_law_690 : decode cL_law 690 = .ok (.iaload, 1) := by decide +kernel
theorem dL_law_691 : decode cL_law 691 = .ok (.invokevirtual 109, 3) := by decide +kernel
theorem dL_law_694 : decode cL_law 694 = .ok (.istore 6, 2) := by decide +kernel
theorem dL_law_696 : decode cL_law 696 = .ok (.aload_n 2, 1) := by decide +kernel
theorem dL_law_697 : decode cL_law 697 = .ok (.invokevirtual 80, 3) := by decide +kernel
theorem dL_law_700 : decode cL_law 700 = .ok (.iload 5, 2) := by decide +kernel
theorem dL_law_702 : decode cL_law 702 = .ok (.if_icmp .eq 5, 3) := by decide +kernel
theorem dL_law_705 : decode cL_law 705 = .ok (.iconst 0, 1) := by decide +kernel
theorem dL_law_706 : decode cL_law 706 = .ok (.ireturn, 1) := by decide +kernel
theorem dL_law_707 : decode cL_law 707 = .ok (.iload 5, 2) := by decide +kernel
theorem dL_law_709 : decode cL_law 709 = .ok (.ifCond .ne 15, 3) := by decide +kernel
theorem dL_law_712 : decode cL_law 712 = .ok (.aload_n 3, 1) := by decide +kernel
theorem dL_law_713 : decode cL_law 713 = .ok (.iconst 0, 1) := by decide +kernel
theorem dL_law_714 : decode cL_law 714 = .ok (.laload, 1) := by decide +kernel
theorem dL_law_715 : decode cL_law 715 = .ok (.iload 6, 2) := by decide +kernel
theorem dL_law_717 : decode cL_law 717 = .ok (.i2l, 1) := by decide +kernel
theorem dL_law_718 : decode cL_law 718 = .ok (.lcmp, 1) := by decide +kernel
theorem dL_law_719 : decode cL_law 719 = .ok (.ifCond .eq 5, 3) := by decide +kernel
theorem dL_law_722 : decode cL_law 722 = .ok (.iconst 0, 1) := by decide +kernel
theorem dL_law_723 : decode cL_law 723 = .ok (.ireturn, 1) := by decide +kernel
theorem dL_law_724 : decode cL_law 724 = .ok (.goto 543, 3) := by decide +kernel
theorem dL_law_727 : decode cL_law 727 = .ok (.aload_n 1, 1) := by decide +kernel
theorem dL_law_728 : decode cL_law 728 = .ok (.aload_n 0, 1) := by decide +kernel
theorem dL_law_729 : decode cL_law 729 = .ok (.iload 4, 2) := by decide +kernel
theorem dL_law_731 : decode cL_law 731 = .ok (.iconst 1, 1) := by decide +kernel
theorem dL_law_732 : decode cL_law 732 = .ok (.iadd, 1) := by decide +kernel
theorem dL_law_733 : decode cL_law 733 = .ok (.iaload, 1) := by decide +kernel
theorem dL_law_734 : decode cL_law 734 = .ok (.aload_n 3, 1) := by decide +kernel
theorem dL_law_735 : decode cL_law 735 = .ok (.invokestatic 110, 3) := by decide +kernel
theorem dL_law_738 : decode cL_law 738 = .ok (.istore 5, 2) := by decide +kernel
theorem dL_law_740 : decode cL_law 740 = .ok (.aload_n 2, 1) := by decide +kernel
theorem dL_law_741 : decode cL_law 741 = .ok (.aload_n 0, 1) := by decide +kernel
theorem dL_law_742 : decode cL_law 742 = .ok (.iload 4, 2) := by decide +kernel
theorem dL_law_744 : decode cL_law 744 = .ok (.iconst 1, 1) := by decide +kernel
theorem dL_law_745 : decode cL_law 745 = .ok (.iadd, 1) := by decide +kernel
theorem dL_law_746 : decode cL_law 746 = .ok (.iaload, 1) := by decide +kernel
theorem dL_law_747 : decode cL_law 747 = .ok (.invokevirtual 112, 3) := by decide +kernel
theorem dL_law_750 : decode cL_law 750 = .ok (.istore 6, 2) := by decide +kernel
theorem dL_law_752 : decode cL_law 752 = .ok (.aload_n 2, 1) := by decide +kernel
theorem dL_law_753 : decode cL_law 753 = .ok (.invokevirtual 80, 3) := by decide +kernel
theorem dL_law_756 : decode cL_law 756 = .ok (.iload 5, 2) := by decide +kernel
theorem dL_law_758 : decode cL_law 758 = .ok (.if_icmp .eq 5, 3) := by decide +kernel
theorem dL_law_761 : decode cL_law 761 = .ok (.iconst 0, 1) := by decide +kernel
theorem dL_law_762 : decode cL_law 762 = .ok (.ireturn, 1) := by decide +kernel
theorem dL_law_763 : decode cL_law 763 = .ok (.iload 5, 2) := by decide +kernel
theorem dL_law_765 : decode cL_law 765 = .ok (.ifCond .ne 15, 3) := by decide +kernel
theorem dL_law_768 : decode cL_law 768 = .ok (.aload_n 3, 1) := by decide +kernel
theorem dL_law_769 : decode cL_law 769 = .ok (.iconst 0, 1) := by decide +kernel
theorem dL_law_770 : decode cL_law 770 = .ok (.laload, 1) := by decide +kernel
theorem dL_law_771 : decode cL_law 771 = .ok (.iload 6, 2) := by decide +kernel
theorem dL_law_773 : decode cL_law 773 = .ok (.i2l, 1) := by decide +kernel
theorem dL_law_774 : decode cL_law 774 = .ok (.lcmp, 1) := by decide +kernel
theorem dL_law_775 : decode cL_law 775 = .ok (.ifCond .eq 5, 3) := by decide +kernel
theorem dL_law_778 : decode cL_law 778 = .ok (.iconst 0, 1) := by decide +kernel
theorem dL_law_779 : decode cL_law 779 = .ok (.ireturn, 1) := by decide +kernel
theorem dL_law_780 : decode cL_law 780 = .ok (.goto 487, 3) := by decide +kernel
theorem dL_law_783 : decode cL_law 783 = .ok (.aload_n 1, 1) := by decide +kernel
theorem dL_law_784 : decode cL_law 784 = .ok (.aload_n 0, 1) := by decide +kernel
theorem dL_law_785 : decode cL_law 785 = .ok (.iload 4, 2) := by decide +kernel
theorem dL_law_787 : decode cL_law 787 = .ok (.iconst 1, 1) := by decide +kernel
theorem dL_law_788 : decode cL_law 788 = .ok (.iadd, 1) := by decide +kernel
theorem dL_law_789 : decode cL_law 789 = .ok (.iaload, 1) := by decide +kernel
theorem dL_law_790 : decode cL_law 790 = .ok (.aload_n 3, 1) := by decide +kernel
theorem dL_law_791 : decode cL_law 791 = .ok (.invokestatic 113, 3) := by decide +kernel
theorem dL_law_794 : decode cL_law 794 = .ok (.istore 5, 2) := by decide +kernel
theorem dL_law_796 : decode cL_law 796 = .ok (.aload_n 2, 1) := by decide +kernel
theorem dL_law_797 : decode cL_law 797 = .ok (.aload_n 0, 1) := by decide +kernel
theorem dL_law_798 : decode cL_law 798 = .ok (.iload 4, 2) := by decide +kernel
theorem dL_law_800 : decode cL_law 800 = .ok (.iconst 1, 1) := by decide +kernel
theorem dL_law_801 : decode cL_law 801 = .ok (.iadd, 1) := by decide +kernel
theorem dL_law_802 : decode cL_law 802 = .ok (.iaload, 1) := by decide +kernel
theorem dL_law_803 : decode cL_law 803 = .ok (.invokevirtual 115, 3) := by decide +kernel
theorem dL_law_806 : decode cL_law 806 = .ok (.istore 6, 2) := by decide +kernel
theorem dL_law_808 : decode cL_law 808 = .ok (.aload_n 2, 1) := by decide +kernel
theorem dL_law_809 : decode cL_law 809 = .ok (.invokevirtual 80, 3) := by decide +kernel
theorem dL_law_812 : decode cL_law 812 = .ok (.iload 5, 2) := by decide +kernel
theorem dL_law_814 : decode cL_law 814 = .ok (.if_icmp .eq 5, 3) := by decide +kernel
theorem dL_law_817 : decode cL_law 817 = .ok (.iconst 0, 1) := by decide +kernel
theorem dL_law_818 : decode cL_law 818 = .ok (.ireturn, 1) := by decide +kernel
theorem dL_law_819 : decode cL_law 819 = .ok (.iload 5, 2) := by decide +kernel
theorem dL_law_821 : decode cL_law 821 = .ok (.ifCond .ne 15, 3) := by decide +kernel
theorem dL_law_824 : decode cL_law 824 = .ok (.aload_n 3, 1) := by decide +kernel
theorem dL_law_825 : decode cL_law 825 = .ok (.iconst 0, 1) := by decide +kernel
theorem dL_law_826 : decode cL_law 826 = .ok (.laload, 1) := by decide +kernel
theorem dL_law_827 : decode cL_law 827 = .ok (.iload 6, 2) := by decide +kernel
theorem dL_law_829 : decode cL_law 829 = .ok (.i2l, 1) := by decide +kernel
theorem dL_law_830 : decode cL_law 830 = .ok (.lcmp, 1) := by decide +kernel
theorem dL_law_831 : decode cL_law 831 = .ok (.ifCond .eq 5, 3) := by decide +kernel
theorem dL_law_834 : decode cL_law 834 = .ok (.iconst 0, 1) := by decide +kernel
theorem dL_law_835 : decode cL_law 835 = .ok (.ireturn, 1) := by decide +kernel
theorem dL_law_836 : decode cL_law 836 = .ok (.goto 431, 3) := by decide +kernel
theorem dL_law_839 : decode cL_law 839 = .ok (.aload_n 1, 1) := by decide +kernel
theorem dL_law_840 : decode cL_law 840 = .ok (.invokevirtual 116, 3) := by decide +kernel
theorem dL_law_843 : decode cL_law 843 = .ok (.aload_n 2, 1) := by decide +kernel
theorem dL_law_844 : decode cL_law 844 = .ok (.invokevirtual 119, 3) := by decide +kernel
theorem dL_law_847 : decode cL_law 847 = .ok (.if_icmp .eq 420, 3) := by decide +kernel
theorem dL_law_850 : decode cL_law 850 = .ok (.iconst 0, 1) := by decide +kernel
theorem dL_law_851 : decode cL_law 851 = .ok (.ireturn, 1) := by decide +kernel
theorem dL_law_852 : decode cL_law 852 = .ok (.aload_n 1, 1) := by decide +kernel
theorem dL_law_853 : decode cL_law 853 = .ok (.aload_n 0, 1) := by decide +kernel
theorem dL_law_854 : decode cL_law 854 = .ok (.iload 4, 2) := by decide +kernel
theorem dL_law_856 : decode cL_law 856 = .ok (.iconst 1, 1) := by decide +kernel
theorem dL_law_857 : decode cL_law 857 = .ok (.iadd, 1) := by decide +kernel
theorem dL_law_858 : decode cL_law 858 = .ok (.iaload, 1) := by decide +kernel
theorem dL_law_859 : decode cL_law 859 = .ok (.aload_n 3, 1) := by decide +kernel
theorem dL_law_860 : decode cL_law 860 = .ok (.invokestatic 120, 3) := by decide +kernel
theorem dL_law_863 : decode cL_law 863 = .ok (.istore 5, 2) := by decide +kernel
theorem dL_law_865 : decode cL_law 865 = .ok (.aload_n 2, 1) := by decide +kernel
theorem dL_law_866 : decode cL_law 866 = .ok (.aload_n 0, 1) := by decide +kernel
theorem dL_law_867 : decode cL_law 867 = .ok (.iload 4, 2) := by decide +kernel
theorem dL_law_869 : decode cL_law 869 = .ok (.iconst 1, 1) := by decide +kernel
theorem dL_law_870 : decode cL_law 870 = .ok (.iadd, 1) := by decide +kernel
theorem dL_law_871 : decode cL_law 871 = .ok (.iaload, 1) := by decide +kernel
theorem dL_law_872 : decode cL_law 872 = .ok (.invokevirtual 122, 3) := by decide +kernel
theorem dL_law_875 : decode cL_law 875 = .ok (.istore 6, 2) := by decide +kernel
theorem dL_law_877 : decode cL_law 877 = .ok (.aload_n 2, 1) := by decide +kernel
theorem dL_law_878 : decode cL_law 878 = .ok (.invokevirtual 80, 3) := by decide +kernel
theorem dL_law_881 : decode cL_law 881 = .ok (.iload 5, 2) := by decide +kernel
theorem dL_law_883 : decode cL_law 883 = .ok (.if_icmp .eq 5, 3) := by decide +kernel
theorem dL_law_886 : decode cL_law 886 = .ok (.iconst 0, 1) := by decide +kernel
theorem dL_law_887 : decode cL_law 887 = .ok (.ireturn, 1) := by decide +kernel
theorem dL_law_888 : decode cL_law 888 = .ok (.iload 5, 2) := by decide +kernel
theorem dL_law_890 : decode cL_law 890 = .ok (.ifCond .ne 15, 3) := by decide +kernel
theorem dL_law_893 : decode cL_law 893 = .ok (.aload_n 3, 1) := by decide +kernel
theorem dL_law_894 : decode cL_law 894 = .ok (.iconst 0, 1) := by decide +kernel
theorem dL_law_895 : decode cL_law 895 = .ok (.laload, 1) := by decide +kernel
theorem dL_law_896 : decode cL_law 896 = .ok (.iload 6, 2) := by decide +kernel
theorem dL_law_898 : decode cL_law 898 = .ok (.i2l, 1) := by decide +kernel
theorem dL_law_899 : decode cL_law 899 = .ok (.lcmp, 1) := by decide +kernel
theorem dL_law_900 : decode cL_law 900 = .ok (.ifCond .eq 5, 3) := by decide +kernel
theorem dL_law_903 : decode cL_law 903 = .ok (.iconst 0, 1) := by decide +kernel
theorem dL_law_904 : decode cL_law 904 = .ok (.ireturn, 1) := by decide +kernel
theorem dL_law_905 : decode cL_law 905 = .ok (.goto 362, 3) := by decide +kernel
theorem dL_law_908 : decode cL_law 908 = .ok (.aload_n 1, 1) := by decide +kernel
theorem dL_law_909 : decode cL_law 909 = .ok (.aload_n 0, 1) := by decide +kernel
theorem dL_law_910 : decode cL_law 910 = .ok (.iload 4, 2) := by decide +kernel
theorem dL_law_912 : decode cL_law 912 = .ok (.iconst 1, 1) := by decide +kernel
theorem dL_law_913 : decode cL_law 913 = .ok (.iadd, 1) := by decide +kernel
theorem dL_law_914 : decode cL_law 914 = .ok (.iaload, 1) := by decide +kernel
theorem dL_law_915 : decode cL_law 915 = .ok (.aload_n 3, 1) := by decide +kernel
theorem dL_law_916 : decode cL_law 916 = .ok (.invokestatic 123, 3) := by decide +kernel
theorem dL_law_919 : decode cL_law 919 = .ok (.istore 5, 2) := by decide +kernel
theorem dL_law_921 : decode cL_law 921 = .ok (.aload_n 2, 1) := by decide +kernel
theorem dL_law_922 : decode cL_law 922 = .ok (.aload_n 0, 1) := by decide +kernel
theorem dL_law_923 : decode cL_law 923 = .ok (.iload 4, 2) := by decide +kernel
theorem dL_law_925 : decode cL_law 925 = .ok (.iconst 1, 1) := by decide +kernel
theorem dL_law_926 : decode cL_law 926 = .ok (.iadd, 1) := by decide +kernel
theorem dL_law_927 : decode cL_law 927 = .ok (.iaload, 1) := by decide +kernel
theorem dL_law_928 : decode cL_law 928 = .ok (.invokevirtual 125, 3) := by decide +kernel
theorem dL_law_931 : decode cL_law 931 = .ok (.istore 6, 2) := by decide +kernel
theorem dL_law_933 : decode cL_law 933 = .ok (.aload_n 2, 1) := by decide +kernel
theorem dL_law_934 : decode cL_law 934 = .ok (.invokevirtual 80, 3) := by decide +kernel
theorem dL_law_937 : decode cL_law 937 = .ok (.iload 5, 2) := by decide +kernel
theorem dL_law_939 : decode cL_law 939 = .ok (.if_icmp .eq 5, 3) := by decide +kernel
theorem dL_law_942 : decode cL_law 942 = .ok (.iconst 0, 1) := by decide +kernel
theorem dL_law_943 : decode cL_law 943 = .ok (.ireturn, 1) := by decide +kernel
theorem dL_law_944 : decode cL_law 944 = .ok (.iload 5, 2) := by decide +kernel
theorem dL_law_946 : decode cL_law 946 = .ok (.ifCond .ne 15, 3) := by decide +kernel
theorem dL_law_949 : decode cL_law 949 = .ok (.aload_n 3, 1) := by decide +kernel
theorem dL_law_950 : decode cL_law 950 = .ok (.iconst 0, 1) := by decide +kernel
theorem dL_law_951 : decode cL_law 951 = .ok (.laload, 1) := by decide +kernel
theorem dL_law_952 : decode cL_law 952 = .ok (.iload 6, 2) := by decide +kernel
theorem dL_law_954 : decode cL_law 954 = .ok (.i2l, 1) := by decide +kernel
theorem dL_law_955 : decode cL_law 955 = .ok (.lcmp, 1) := by decide +kernel
theorem dL_law_956 : decode cL_law 956 = .ok (.ifCond .eq 5, 3) := by decide +kernel
theorem dL_law_959 : decode cL_law 959 = .ok (.iconst 0, 1) := by decide +kernel
theorem dL_law_960 : decode cL_law 960 = .ok (.ireturn, 1) := by decide +kernel
theorem dL_law_961 : decode cL_law 961 = .ok (.goto 306, 3) := by decide +kernel
theorem dL_law_964 : decode cL_law 964 = .ok (.aload_n 1, 1) := by decide +kernel
theorem dL_law_965 : decode cL_law 965 = .ok (.aload_n 0, 1) := by decide +kernel
theorem dL_law_966 : decode cL_law 966 = .ok (.iload 4, 2) := by decide +kernel
theorem dL_law_968 : decode cL_law 968 = .ok (.iconst 1, 1) := by decide +kernel
theorem dL_law_969 : decode cL_law 969 = .ok (.iadd, 1) := by decide +kernel
theorem dL_law_970 : decode cL_law 970 = .ok (.iaload, 1) := by decide +kernel
theorem dL_law_971 : decode cL_law 971 = .ok (.aload_n 3, 1) := by decide +kernel
theorem dL_law_972 : decode cL_law 972 = .ok (.invokestatic 126, 3) := by decide +kernel
theorem dL_law_975 : decode cL_law 975 = .ok (.istore 5, 2) := by decide +kernel
theorem dL_law_977 : decode cL_law 977 = .ok (.aload_n 2, 1) := by decide +kernel
theorem dL_law_978 : decode cL_law 978 = .ok (.aload_n 0, 1) := by decide +kernel
theorem dL_law_979 : decode cL_law 979 = .ok (.iload 4, 2) := by decide +kernel
theorem dL_law_981 : decode cL_law 981 = .ok (.iconst 1, 1) := by decide +kernel
theorem dL_law_982 : decode cL_law 982 = .ok (.iadd, 1) := by decide +kernel
theorem dL_law_983 : decode cL_law 983 = .ok (.iaload, 1) := by decide +kernel
theorem dL_law_984 : decode cL_law 984 = .ok (.invokevirtual 128, 3) := by decide +kernel
theorem dL_law_987 : decode cL_law 987 = .ok (.istore 6, 2) := by decide +kernel
theorem dL_law_989 : decode cL_law 989 = .ok (.aload_n 2, 1) := by decide +kernel
theorem dL_law_990 : decode cL_law 990 = .ok (.invokevirtual 80, 3) := by decide +kernel
theorem dL_law_993 : decode cL_law 993 = .ok (.iload 5, 2) := by decide +kernel
theorem dL_law_995 : decode cL_law 995 = .ok (.if_icmp .eq 5, 3) := by decide +kernel
theorem dL_law_998 : decode cL_law 998 = .ok (.iconst 0, 1) := by decide +kernel
theorem dL_law_999 : decode cL_law 999 = .ok (.ireturn, 1) := by decide +kernel
theorem dL_law_1000 : decode cL_law 1000 = .ok (.iload 5, 2) := by decide +kernel
theorem dL_law_1002 : decode cL_law 1002 = .ok (.ifCond .ne 15, 3) := by decide +kernel
theorem dL_law_1005 : decode cL_law 1005 = .ok (.aload_n 3, 1) := by decide +kernel
theorem dL_law_1006 : decode cL_law 1006 = .ok (.iconst 0, 1) := by decide +kernel
theorem dL_law_1007 : decode cL_law 1007 = .ok (.laload, 1) := by decide +kernel
theorem dL_law_1008 : decode cL_law 1008 = .ok (.iload 6, 2) := by decide +kernel
theorem dL_law_1010 : decode cL_law 1010 = .ok (.i2l, 1) := by decide +kernel
theorem dL_law_1011 : decode cL_law 1011 = .ok (.lcmp, 1) := by decide +kernel
theorem dL_law_1012 : decode cL_law 1012 = .ok (.ifCond .eq 5, 3) := by decide +kernel
theorem dL_law_1015 : decode cL_law 1015 = .ok (.iconst 0, 1) := by decide +kernel
theorem dL_law_1016 : decode cL_law 1016 = .ok (.ireturn, 1) := by decide +kernel
theorem dL_law_1017 : decode cL_law 1017 = .ok (.goto 250, 3) := by decide +kernel
theorem dL_law_1020 : decode cL_law 1020 = .ok (.aload_n 1, 1) := by decide +kernel
theorem dL_law_1021 : decode cL_law 1021 = .ok (.aload_n 0, 1) := by decide +kernel
theorem dL_law_1022 : decode cL_law 1022 = .ok (.iload 4, 2) := by decide +kernel
theorem dL_law_1024 : decode cL_law 1024 = .ok (.iconst 1, 1) := by decide +kernel
theorem dL_law_1025 : decode cL_law 1025 = .ok (.iadd, 1) := by decide +kernel
theorem dL_law_1026 : decode cL_law 1026 = .ok (.iaload, 1) := by decide +kernel
theorem dL_law_1027 : decode cL_law 1027 = .ok (.aload_n 3, 1) := by decide +kernel
theorem dL_law_1028 : decode cL_law 1028 = .ok (.invokestatic 129, 3) := by decide +kernel
theorem dL_law_1031 : decode cL_law 1031 = .ok (.istore 5, 2) := by decide +kernel
theorem dL_law_1033 : decode cL_law 1033 = .ok (.aload_n 2, 1) := by decide +kernel
theorem dL_law_1034 : decode cL_law 1034 = .ok (.aload_n 0, 1) := by decide +kernel
theorem dL_law_1035 : decode cL_law 1035 = .ok (.iload 4, 2) := by decide +kernel
theorem dL_law_1037 : decode cL_law 1037 = .ok (.iconst 1, 1) := by decide +kernel
theorem dL_law_1038 : decode cL_law 1038 = .ok (.iadd, 1) := by decide +kernel
theorem dL_law_1039 : decode cL_law 1039 = .ok (.iaload, 1) := by decide +kernel
theorem dL_law_1040 : decode cL_law 1040 = .ok (.invokevirtual 131, 3) := by decide +kernel
theorem dL_law_1043 : decode cL_law 1043 = .ok (.istore 6, 2) := by decide +kernel
theorem dL_law_1045 : decode cL_law 1045 = .ok (.aload_n 2, 1) := by decide +kernel
theorem dL_law_1046 : decode cL_law 1046 = .ok (.invokevirtual 80, 3) := by decide +kernel
theorem dL_law_1049 : decode cL_law 1049 = .ok (.iload 5, 2) := by decide +kernel
theorem dL_law_1051 : decode cL_law 1051 = .ok (.if_icmp .eq 5, 3) := by decide +kernel
theorem dL_law_1054 : decode cL_law 1054 = .ok (.iconst 0, 1) := by decide +kernel
theorem dL_law_1055 : decode cL_law 1055 = .ok (.ireturn, 1) := by decide +kernel
theorem dL_law_1056 : decode cL_law 1056 = .ok (.iload 5, 2) := by decide +kernel
theorem dL_law_1058 : decode cL_law 1058 = .ok (.ifCond .ne 15, 3) := by decide +kernel
theorem dL_law_1061 : decode cL_law 1061 = .ok (.aload_n 3, 1) := by decide +kernel
theorem dL_law_1062 : decode cL_law 1062 = .ok (.iconst 0, 1) := by decide +kernel
theorem dL_law_1063 : decode cL_law 1063 = .ok (.laload, 1) := by decide +kernel
theorem dL_law_1064 : decode cL_law 1064 = .ok (.iload 6, 2) := by decide +kernel
theorem dL_law_1066 : decode cL_law 1066 = .ok (.i2l, 1) := by decide +kernel
theorem dL_law_1067 : decode cL_law 1067 = .ok (.lcmp, 1) := by decide +kernel
theorem dL_law_1068 : decode cL_law 1068 = .ok (.ifCond .eq 5, 3) := by decide +kernel
theorem dL_law_1071 : decode cL_law 1071 = .ok (.iconst 0, 1) := by decide +kernel
theorem dL_law_1072 : decode cL_law 1072 = .ok (.ireturn, 1) := by decide +kernel
theorem dL_law_1073 : decode cL_law 1073 = .ok (.goto 194, 3) := by decide +kernel
theorem dL_law_1076 : decode cL_law 1076 = .ok (.aload_n 1, 1) := by decide +kernel
theorem dL_law_1077 : decode cL_law 1077 = .ok (.aload_n 0, 1) := by decide +kernel
theorem dL_law_1078 : decode cL_law 1078 = .ok (.iload 4, 2) := by decide +kernel
theorem dL_law_1080 : decode cL_law 1080 = .ok (.iconst 1, 1) := by decide +kernel
theorem dL_law_1081 : decode cL_law 1081 = .ok (.iadd, 1) := by decide +kernel
theorem dL_law_1082 : decode cL_law 1082 = .ok (.iaload, 1) := by decide +kernel
theorem dL_law_1083 : decode cL_law 1083 = .ok (.aload_n 0, 1) := by decide +kernel
theorem dL_law_1084 : decode cL_law 1084 = .ok (.iload 4, 2) := by decide +kernel
theorem dL_law_1086 : decode cL_law 1086 = .ok (.iconst 2, 1) := by decide +kernel
theorem dL_law_1087 : decode cL_law 1087 = .ok (.iadd, 1) := by decide +kernel
theorem dL_law_1088 : decode cL_law 1088 = .ok (.iaload, 1) := by decide +kernel
theorem dL_law_1089 : decode cL_law 1089 = .ok (.aload_n 3, 1) := by decide +kernel
theorem dL_law_1090 : decode cL_law 1090 = .ok (.invokestatic 132, 3) := by decide +kernel
theorem dL_law_1093 : decode cL_law 1093 = .ok (.istore 5, 2) := by decide +kernel
theorem dL_law_1095 : decode cL_law 1095 = .ok (.aload_n 2, 1) := by decide +kernel
theorem dL_law_1096 : decode cL_law 1096 = .ok (.aload_n 0, 1) := by decide +kernel
theorem dL_law_1097 : decode cL_law 1097 = .ok (.iload 4, 2) := by decide +kernel
theorem dL_law_1099 : decode cL_law 1099 = .ok (.iconst 1, 1) := by decide +kernel
theorem dL_law_1100 : decode cL_law 1100 = .ok (.iadd, 1) := by decide +kernel
theorem dL_law_1101 : decode cL_law 1101 = .ok (.iaload, 1) := by decide +kernel
theorem dL_law_1102 : decode cL_law 1102 = .ok (.aload_n 0, 1) := by decide +kernel
theorem dL_law_1103 : decode cL_law 1103 = .ok (.iload 4, 2) := by decide +kernel
theorem dL_law_1105 : decode cL_law 1105 = .ok (.iconst 2, 1) := by decide +kernel
theorem dL_law_1106 : decode cL_law 1106 = .ok (.iadd, 1) := by decide +kernel
theorem dL_law_1107 : decode cL_law 1107 = .ok (.iaload, 1) := by decide +kernel
theorem dL_law_1108 : decode cL_law 1108 = .ok (.invokevirtual 134, 3) := by decide +kernel
theorem dL_law_1111 : decode cL_law 1111 = .ok (.istore 6, 2) := by decide +kernel
theorem dL_law_1113 : decode cL_law 1113 = .ok (.aload_n 2, 1) := by decide +kernel
theorem dL_law_1114 : decode cL_law 1114 = .ok (.invokevirtual 80, 3) := by decide +kernel
theorem dL_law_1117 : decode cL_law 1117 = .ok (.iload 5, 2) := by decide +kernel
theorem dL_law_1119 : decode cL_law 1119 = .ok (.if_icmp .eq 5, 3) := by decide +kernel
theorem dL_law_1122 : decode cL_law 1122 = .ok (.iconst 0, 1) := by decide +kernel
theorem dL_law_1123 : decode cL_law 1123 = .ok (.ireturn, 1) := by decide +kernel
theorem dL_law_1124 : decode cL_law 1124 = .ok (.iload 5, 2) := by decide +kernel
theorem dL_law_1126 : decode cL_law 1126 = .ok (.ifCond .ne 15, 3) := by decide +kernel
theorem dL_law_1129 : decode cL_law 1129 = .ok (.aload_n 3, 1) := by decide +kernel
theorem dL_law_1130 : decode cL_law 1130 = .ok (.iconst 0, 1) := by decide +kernel
theorem dL_law_1131 : decode cL_law 1131 = .ok (.laload, 1) := by decide +kernel
theorem dL_law_1132 : decode cL_law 1132 = .ok (.iload 6, 2) := by decide +kernel
theorem dL_law_1134 : decode cL_law 1134 = .ok (.i2l, 1) := by decide +kernel
theorem dL_law_1135 : decode cL_law 1135 = .ok (.lcmp, 1) := by decide +kernel
theorem dL_law_1136 : decode cL_law 1136 = .ok (.ifCond .eq 5, 3) := by decide +kernel
theorem dL_law_1139 : decode cL_law 1139 = .ok (.iconst 0, 1) := by decide +kernel
theorem dL_law_1140 : decode cL_law 1140 = .ok (.ireturn, 1) := by decide +kernel
theorem dL_law_1141 : decode cL_law 1141 = .ok (.goto 126, 3) := by decide +kernel
theorem dL_law_1144 : decode cL_law 1144 = .ok (.aload_n 1, 1) := by decide +kernel
theorem dL_law_1145 : decode cL_law 1145 = .ok (.aload_n 0, 1) := by decide +kernel
theorem dL_law_1146 : decode cL_law 1146 = .ok (.iload 4, 2) := by decide +kernel
theorem dL_law_1148 : decode cL_law 1148 = .ok (.iconst 1, 1) := by decide +kernel
theorem dL_law_1149 : decode cL_law 1149 = .ok (.iadd, 1) := by decide +kernel
theorem dL_law_1150 : decode cL_law 1150 = .ok (.iaload, 1) := by decide +kernel
theorem dL_law_1151 : decode cL_law 1151 = .ok (.aload_n 0, 1) := by decide +kernel
theorem dL_law_1152 : decode cL_law 1152 = .ok (.iload 4, 2) := by decide +kernel
theorem dL_law_1154 : decode cL_law 1154 = .ok (.iconst 2, 1) := by decide +kernel
theorem dL_law_1155 : decode cL_law 1155 = .ok (.iadd, 1) := by decide +kernel
theorem dL_law_1156 : decode cL_law 1156 = .ok (.iaload, 1) := by decide +kernel
theorem dL_law_1157 : decode cL_law 1157 = .ok (.aload_n 3, 1) := by decide +kernel
theorem dL_law_1158 : decode cL_law 1158 = .ok (.invokestatic 135, 3) := by decide +kernel
theorem dL_law_1161 : decode cL_law 1161 = .ok (.istore 5, 2) := by decide +kernel
theorem dL_law_1163 : decode cL_law 1163 = .ok (.aload_n 2, 1) := by decide +kernel
theorem dL_law_1164 : decode cL_law 1164 = .ok (.aload_n 0, 1) := by decide +kernel
theorem dL_law_1165 : decode cL_law 1165 = .ok (.iload 4, 2) := by decide +kernel
theorem dL_law_1167 : decode cL_law 1167 = .ok (.iconst 1, 1) := by decide +kernel
theorem dL_law_1168 : decode cL_law 1168 = .ok (.iadd, 1) := by decide +kernel
theorem dL_law_1169 : decode cL_law 1169 = .ok (.iaload, 1) := by decide +kernel
theorem dL_law_1170 : decode cL_law 1170 = .ok (.aload_n 0, 1) := by decide +kernel
theorem dL_law_1171 : decode cL_law 1171 = .ok (.iload 4, 2) := by decide +kernel
theorem dL_law_1173 : decode cL_law 1173 = .ok (.iconst 2, 1) := by decide +kernel
theorem dL_law_1174 : decode cL_law 1174 = .ok (.iadd, 1) := by decide +kernel
theorem dL_law_1175 : decode cL_law 1175 = .ok (.iaload, 1) := by decide +kernel
theorem dL_law_1176 : decode cL_law 1176 = .ok (.invokevirtual 137, 3) := by decide +kernel
theorem dL_law_1179 : decode cL_law 1179 = .ok (.istore 6, 2) := by decide +kernel
theorem dL_law_1181 : decode cL_law 1181 = .ok (.aload_n 2, 1) := by decide +kernel
theorem dL_law_1182 : decode cL_law 1182 = .ok (.invokevirtual 80, 3) := by decide +kernel
theorem dL_law_1185 : decode cL_law 1185 = .ok (.iload 5, 2) := by decide +kernel
theorem dL_law_1187 : decode cL_law 1187 = .ok (.if_icmp .eq 5, 3) := by decide +kernel
theorem dL_law_1190 : decode cL_law 1190 = .ok (.iconst 0, 1) := by decide +kernel
theorem dL_law_1191 : decode cL_law 1191 = .ok (.ireturn, 1) := by decide +kernel
theorem dL_law_1192 : decode cL_law 1192 = .ok (.iload 5, 2) := by decide +kernel
theorem dL_law_1194 : decode cL_law 1194 = .ok (.ifCond .ne 15, 3) := by decide +kernel
theorem dL_law_1197 : decode cL_law 1197 = .ok (.aload_n 3, 1) := by decide +kernel
theorem dL_law_1198 : decode cL_law 1198 = .ok (.iconst 0, 1) := by decide +kernel
theorem dL_law_1199 : decode cL_law 1199 = .ok (.laload, 1) := by decide +kernel
theorem dL_law_1200 : decode cL_law 1200 = .ok (.iload 6, 2) := by decide +kernel
theorem dL_law_1202 : decode cL_law 1202 = .ok (.i2l, 1) := by decide +kernel
theorem dL_law_1203 : decode cL_law 1203 = .ok (.lcmp, 1) := by decide +kernel
theorem dL_law_1204 : decode cL_law 1204 = .ok (.ifCond .eq 5, 3) := by decide +kernel
theorem dL_law_1207 : decode cL_law 1207 = .ok (.iconst 0, 1) := by decide +kernel
theorem dL_law_1208 : decode cL_law 1208 = .ok (.ireturn, 1) := by decide +kernel
theorem dL_law_1209 : decode cL_law 1209 = .ok (.goto 58, 3) := by decide +kernel
theorem dL_law_1212 : decode cL_law 1212 = .ok (.aload_n 1, 1) := by decide +kernel
theorem dL_law_1213 : decode cL_law 1213 = .ok (.invokevirtual 138, 3) := by decide +kernel
theorem dL_law_1216 : decode cL_law 1216 = .ok (.dstore 5, 2) := by decide +kernel
theorem dL_law_1218 : decode cL_law 1218 = .ok (.aload_n 2, 1) := by decide +kernel
theorem dL_law_1219 : decode cL_law 1219 = .ok (.invokevirtual 142, 3) := by decide +kernel
theorem dL_law_1222 : decode cL_law 1222 = .ok (.dstore 7, 2) := by decide +kernel
theorem dL_law_1224 : decode cL_law 1224 = .ok (.dload 5, 2) := by decide +kernel
theorem dL_law_1226 : decode cL_law 1226 = .ok (.dload 7, 2) := by decide +kernel
theorem dL_law_1228 : decode cL_law 1228 = .ok (.dcmp .l, 1) := by decide +kernel
theorem dL_law_1229 : decode cL_law 1229 = .ok (.ifCond .eq 21, 3) := by decide +kernel
theorem dL_law_1232 : decode cL_law 1232 = .ok (.dload 5, 2) := by decide +kernel
theorem dL_law_1234 : decode cL_law 1234 = .ok (.dload 5, 2) := by decide +kernel
theorem dL_law_1236 : decode cL_law 1236 = .ok (.dcmp .l, 1) := by decide +kernel
theorem dL_law_1237 : decode cL_law 1237 = .ok (.ifCond .eq 11, 3) := by decide +kernel
theorem dL_law_1240 : decode cL_law 1240 = .ok (.dload 7, 2) := by decide +kernel
theorem dL_law_1242 : decode cL_law 1242 = .ok (.dload 7, 2) := by decide +kernel
theorem dL_law_1244 : decode cL_law 1244 = .ok (.dcmp .l, 1) := by decide +kernel
theorem dL_law_1245 : decode cL_law 1245 = .ok (.ifCond .ne 5, 3) := by decide +kernel
theorem dL_law_1248 : decode cL_law 1248 = .ok (.iconst 0, 1) := by decide +kernel
theorem dL_law_1249 : decode cL_law 1249 = .ok (.ireturn, 1) := by decide +kernel
theorem dL_law_1250 : decode cL_law 1250 = .ok (.goto 17, 3) := by decide +kernel
theorem dL_law_1253 : decode cL_law 1253 = .ok (.aload_n 1, 1) := by decide +kernel
theorem dL_law_1254 : decode cL_law 1254 = .ok (.invokevirtual 143, 3) := by decide +kernel
theorem dL_law_1257 : decode cL_law 1257 = .ok (.aload_n 2, 1) := by decide +kernel
theorem dL_law_1258 : decode cL_law 1258 = .ok (.invokevirtual 147, 3) := by decide +kernel
theorem dL_law_1261 : decode cL_law 1261 = .ok (.lcmp, 1) := by decide +kernel
theorem dL_law_1262 : decode cL_law 1262 = .ok (.ifCond .eq 5, 3) := by decide +kernel
theorem dL_law_1265 : decode cL_law 1265 = .ok (.iconst 0, 1) := by decide +kernel
theorem dL_law_1266 : decode cL_law 1266 = .ok (.ireturn, 1) := by decide +kernel
theorem dL_law_1267 : decode cL_law 1267 = .ok (.iinc 4 4, 3) := by decide +kernel
theorem dL_law_1270 : decode cL_law 1270 = .ok (.goto (-1247), 3) := by decide +kernel
theorem dL_law_1273 : decode cL_law 1273 = .ok (.iconst 1, 1) := by decide +kernel
theorem dL_law_1274 : decode cL_law 1274 = .ok (.ireturn, 1) := by decide +kernel
abbrev vwCl : List vw_C := [(RX0, TX0, 4), (RX1, TX1, 10), (RX2, TX2, 8), (RX3, TX3, 2), (RX4, TX4, 16), (RX5, TX5, 7)]
/-- the objects of StakeWeirs$Barge, kind 0: what each holds, by its address -/
structure wK_O_Barge where
  f_ticket : Nat → Int32
  f_wide : Nat → Int32
  f_place : Nat → Int32
  f_broken : Nat → Int32
/-- the objects of StakeWeirs$Estuary, kind 1: what each holds, by its address -/
structure wK_O_Estuary where
  f_table : Nat → Option Nat
  f_weirs : Nat → Option Nat
  f_order : Nat → Option Nat
  f_barges : Nat → Option Nat
  f_weirCount : Nat → Int32
  f_bargeCount : Nat → Int32
  f_night : Nat → Int32
  f_arrived : Nat → Int32
  f_fines : Nat → Int32
  f_rents : Nat → Int32
/-- the objects of StakeWeirs$Weir, kind 2: what each holds, by its address -/
structure wK_O_Weir where
  f_place : Nat → Int32
  f_stakes : Nat → Int32
  f_wattle : Nat → Int32
  f_rent : Nat → Int32
  f_coins : Nat → Int32
  f_eels : Nat → Int32
  f_open : Nat → Int32
  f_owed : Nat → Int32
/-- the objects of StakeWeirs, kind 3: what each holds, by its address -/
structure wK_O_StakeWeirs where
  f_now : Nat → Option Nat
  f_trial : Nat → Option Nat
/-- the objects of StakeWeirsModel$State, kind 4: what each holds, by its address -/
structure wK_O_State where
  f_night : Nat → Int32
  f_stakes : Nat → Option Nat
  f_wattle : Nat → Option Nat
  f_coins : Nat → Option Nat
  f_eels : Nat → Option Nat
  f_open : Nat → Option Nat
  f_owes : Nat → Option Nat
  f_barges : Nat → Int32
  f_wide : Nat → Option Nat
  f_at : Nat → Option Nat
  f_broken : Nat → Option Nat
  f_was : Nat → Option Nat
  f_arrived : Nat → Int32
  f_fines : Nat → Int32
  f_rents : Nat → Int32
  f_this_0 : Nat → Option Nat
/-- the objects of StakeWeirsModel, kind 5: what each holds, by its address -/
structure wK_O_StakeWeirsModel where
  f_thrown : Nat → Int32
  f_table : Nat → Option Nat
  f_weirs : Nat → Int32
  f_place : Nat → Option Nat
  f_rent : Nat → Option Nat
  f_s : Nat → Option Nat
  f_ahead : Nat → Option Nat
/-- the arrays of kind 6: what each holds, by its address -/
structure wK_R_I where
  len : Nat → Nat
  row : Nat → Nat → Int32
/-- the arrays of kind 7: what each holds, by its address -/
structure wK_R_Barge where
  len : Nat → Nat
  row : Nat → Nat → Option Nat
/-- the arrays of kind 8: what each holds, by its address -/
structure wK_R_Weir where
  len : Nat → Nat
  row : Nat → Nat → Option Nat
/-- the pool: the addresses, the kind of each, and the kinds -/
structure wPS where
  L : List Nat
  K : Nat → Nat
  O_Barge : wK_O_Barge
  O_Estuary : wK_O_Estuary
  O_Weir : wK_O_Weir
  O_StakeWeirs : wK_O_StakeWeirs
  O_State : wK_O_State
  O_StakeWeirsModel : wK_O_StakeWeirsModel
  R_I : wK_R_I
  R_Barge : wK_R_Barge
  R_Weir : wK_R_Weir
/-- the empty pool -/
abbrev wP0 : wPS := { L := [], K := (fun _ => 0), O_Barge := { f_ticket := (fun _ => 0), f_wide := (fun _ => 0), f_place := (fun _ => 0), f_broken := (fun _ => 0) }, O_Estuary := { f_table := (fun _ => none), f_weirs := (fun _ => none), f_order := (fun _ => none), f_barges := (fun _ => none), f_weirCount := (fun _ => 0), f_bargeCount := (fun _ => 0), f_night := (fun _ => 0), f_arrived := (fun _ => 0), f_fines := (fun _ => 0), f_rents := (fun _ => 0) }, O_Weir := { f_place := (fun _ => 0), f_stakes := (fun _ => 0), f_wattle := (fun _ => 0), f_rent := (fun _ => 0), f_coins := (fun _ => 0), f_eels := (fun _ => 0), f_open := (fun _ => 0), f_owed := (fun _ => 0) }, O_StakeWeirs := { f_now := (fun _ => none), f_trial := (fun _ => none) }, O_State := { f_night := (fun _ => 0), f_stakes := (fun _ => none), f_wattle := (fun _ => none), f_coins := (fun _ => none), f_eels := (fun _ => none), f_open := (fun _ => none), f_owes := (fun _ => none), f_barges := (fun _ => 0), f_wide := (fun _ => none), f_at := (fun _ => none), f_broken := (fun _ => none), f_was := (fun _ => none), f_arrived := (fun _ => 0), f_fines := (fun _ => 0), f_rents := (fun _ => 0), f_this_0 := (fun _ => none) }, O_StakeWeirsModel := { f_thrown := (fun _ => 0), f_table := (fun _ => none), f_weirs := (fun _ => 0), f_place := (fun _ => none), f_rent := (fun _ => none), f_s := (fun _ => none), f_ahead := (fun _ => none) }, R_I := { len := (fun _ => 0), row := (fun _ _ => 0) }, R_Barge := { len := (fun _ => 0), row := (fun _ _ => none) }, R_Weir := { len := (fun _ => 0), row := (fun _ _ => none) } }
/-- the pool's rows by their kinds -/
abbrev wPF (cyI : ClassId) (cyOc1f37 : ClassId) (cyOa31c1 : ClassId) (S : wPS) : Nat → va_E := fun a => if S.K a = 0 then .inr (0, [.int (S.O_Barge.f_ticket a), .int (S.O_Barge.f_wide a), .int (S.O_Barge.f_place a), .int (S.O_Barge.f_broken a)]) else if S.K a = 1 then .inr (1, [va_rf (S.O_Estuary.f_table a), va_rf (S.O_Estuary.f_weirs a), va_rf (S.O_Estuary.f_order a), va_rf (S.O_Estuary.f_barges a), .int (S.O_Estuary.f_weirCount a), .int (S.O_Estuary.f_bargeCount a), .int (S.O_Estuary.f_night a), .int (S.O_Estuary.f_arrived a), .int (S.O_Estuary.f_fines a), .int (S.O_Estuary.f_rents a)]) else if S.K a = 2 then .inr (2, [.int (S.O_Weir.f_place a), .int (S.O_Weir.f_stakes a), .int (S.O_Weir.f_wattle a), .int (S.O_Weir.f_rent a), .int (S.O_Weir.f_coins a), .int (S.O_Weir.f_eels a), .int (S.O_Weir.f_open a), .int (S.O_Weir.f_owed a)]) else if S.K a = 3 then .inr (3, [va_rf (S.O_StakeWeirs.f_now a), va_rf (S.O_StakeWeirs.f_trial a)]) else if S.K a = 4 then .inr (4, [.int (S.O_State.f_night a), va_rf (S.O_State.f_stakes a), va_rf (S.O_State.f_wattle a), va_rf (S.O_State.f_coins a), va_rf (S.O_State.f_eels a), va_rf (S.O_State.f_open a), va_rf (S.O_State.f_owes a), .int (S.O_State.f_barges a), va_rf (S.O_State.f_wide a), va_rf (S.O_State.f_at a), va_rf (S.O_State.f_broken a), va_rf (S.O_State.f_was a), .int (S.O_State.f_arrived a), .int (S.O_State.f_fines a), .int (S.O_State.f_rents a), va_rf (S.O_State.f_this_0 a)]) else if S.K a = 5 then .inr (5, [.int (S.O_StakeWeirsModel.f_thrown a), va_rf (S.O_StakeWeirsModel.f_table a), .int (S.O_StakeWeirsModel.f_weirs a), va_rf (S.O_StakeWeirsModel.f_place a), va_rf (S.O_StakeWeirsModel.f_rent a), va_rf (S.O_StakeWeirsModel.f_s a), va_rf (S.O_StakeWeirsModel.f_ahead a)]) else if S.K a = 6 then .inl (cyI, S.R_I.len a, .inl (S.R_I.row a)) else if S.K a = 7 then .inl (cyOc1f37, S.R_Barge.len a, .inr (.inr (.inr (.inr (S.R_Barge.row a))))) else .inl (cyOa31c1, S.R_Weir.len a, .inr (.inr (.inr (.inr (S.R_Weir.row a)))))
theorem wAt_O_Barge (cyI : ClassId) (cyOc1f37 : ClassId) (cyOa31c1 : ClassId) (S : wPS) {a : Nat} (h : S.K a = 0) : wPF cyI cyOc1f37 cyOa31c1 S a = .inr (0, [.int (S.O_Barge.f_ticket a), .int (S.O_Barge.f_wide a), .int (S.O_Barge.f_place a), .int (S.O_Barge.f_broken a)]) := by simp [wPF, h]
theorem wGt_O_Barge (cyI : ClassId) (cyOc1f37 : ClassId) (cyOa31c1 : ClassId) (X : va_W) (S : wPS) {a : Nat} (hL : a ∈ S.L) (h : S.K a = 0) : ∃ k : Nat, (X ++ va_pl S.L (wPF cyI cyOc1f37 cyOa31c1 S))[k]? = some (a, wPF cyI cyOc1f37 cyOa31c1 S a) ∧ (X ++ va_pl S.L (wPF cyI cyOc1f37 cyOa31c1 S))[k]? = some (a, .inr (0, [.int (S.O_Barge.f_ticket a), .int (S.O_Barge.f_wide a), .int (S.O_Barge.f_place a), .int (S.O_Barge.f_broken a)])) := by
  obtain ⟨k, hk⟩ := va_pl_get (X := X) (f := wPF cyI cyOc1f37 cyOa31c1 S) hL
  exact ⟨k, hk, hk.trans (congrArg (fun e => some (a, e)) (wAt_O_Barge cyI cyOc1f37 cyOa31c1 S h))⟩
theorem wSt_O_Barge_f_ticket (cyI : ClassId) (cyOc1f37 : ClassId) (cyOa31c1 : ClassId) (S : wPS) {a : Nat} (h : S.K a = 0) (v : Int32) (b : Nat) : va_up (wPF cyI cyOc1f37 cyOa31c1 S) a (.inr (0, [.int v, .int (S.O_Barge.f_wide a), .int (S.O_Barge.f_place a), .int (S.O_Barge.f_broken a)])) b = wPF cyI cyOc1f37 cyOa31c1 { S with O_Barge := { S.O_Barge with f_ticket := va_up S.O_Barge.f_ticket a v } } b := by by_cases hb : b = a <;> first | (simp only [wPF, va_up_ne _ _ hb]; done) | (simp only [wPF, va_up, if_neg hb]; done) | simp [wPF, va_re, va_up, va_rf, hb, h]
theorem wPu_O_Barge_f_ticket (cyI : ClassId) (cyOc1f37 : ClassId) (cyOa31c1 : ClassId) (X : va_W) (S : wPS) {A : Nat → Prop} {a k : Nat} (hD : va_D A (X ++ va_pl S.L (wPF cyI cyOc1f37 cyOa31c1 S))) (hL : a ∈ S.L) (h : S.K a = 0) (hk : (X ++ va_pl S.L (wPF cyI cyOc1f37 cyOa31c1 S))[k]? = some (a, wPF cyI cyOc1f37 cyOa31c1 S a)) (v : Int32) : (X ++ va_pl S.L (wPF cyI cyOc1f37 cyOa31c1 S)).set k (a, .inr (0, [.int v, .int (S.O_Barge.f_wide a), .int (S.O_Barge.f_place a), .int (S.O_Barge.f_broken a)])) = X ++ va_pl S.L (wPF cyI cyOc1f37 cyOa31c1 { S with O_Barge := { S.O_Barge with f_ticket := va_up S.O_Barge.f_ticket a v } }) := by
  rw [va_pl_set hD hL hk]
  exact congrArg (fun l => X ++ l) (va_pl_congr (wSt_O_Barge_f_ticket cyI cyOc1f37 cyOa31c1 S h v))
theorem wSt_O_Barge_f_wide (cyI : ClassId) (cyOc1f37 : ClassId) (cyOa31c1 : ClassId) (S : wPS) {a : Nat} (h : S.K a = 0) (v : Int32) (b : Nat) : va_up (wPF cyI cyOc1f37 cyOa31c1 S) a (.inr (0, [.int (S.O_Barge.f_ticket a), .int v, .int (S.O_Barge.f_place a), .int (S.O_Barge.f_broken a)])) b = wPF cyI cyOc1f37 cyOa31c1 { S with O_Barge := { S.O_Barge with f_wide := va_up S.O_Barge.f_wide a v } } b := by by_cases hb : b = a <;> first | (simp only [wPF, va_up_ne _ _ hb]; done) | (simp only [wPF, va_up, if_neg hb]; done) | simp [wPF, va_re, va_up, va_rf, hb, h]
theorem wPu_O_Barge_f_wide (cyI : ClassId) (cyOc1f37 : ClassId) (cyOa31c1 : ClassId) (X : va_W) (S : wPS) {A : Nat → Prop} {a k : Nat} (hD : va_D A (X ++ va_pl S.L (wPF cyI cyOc1f37 cyOa31c1 S))) (hL : a ∈ S.L) (h : S.K a = 0) (hk : (X ++ va_pl S.L (wPF cyI cyOc1f37 cyOa31c1 S))[k]? = some (a, wPF cyI cyOc1f37 cyOa31c1 S a)) (v : Int32) : (X ++ va_pl S.L (wPF cyI cyOc1f37 cyOa31c1 S)).set k (a, .inr (0, [.int (S.O_Barge.f_ticket a), .int v, .int (S.O_Barge.f_place a), .int (S.O_Barge.f_broken a)])) = X ++ va_pl S.L (wPF cyI cyOc1f37 cyOa31c1 { S with O_Barge := { S.O_Barge with f_wide := va_up S.O_Barge.f_wide a v } }) := by
  rw [va_pl_set hD hL hk]
  exact congrArg (fun l => X ++ l) (va_pl_congr (wSt_O_Barge_f_wide cyI cyOc1f37 cyOa31c1 S h v))
theorem wSt_O_Barge_f_place (cyI : ClassId) (cyOc1f37 : ClassId) (cyOa31c1 : ClassId) (S : wPS) {a : Nat} (h : S.K a = 0) (v : Int32) (b : Nat) : va_up (wPF cyI cyOc1f37 cyOa31c1 S) a (.inr (0, [.int (S.O_Barge.f_ticket a), .int (S.O_Barge.f_wide a), .int v, .int (S.O_Barge.f_broken a)])) b = wPF cyI cyOc1f37 cyOa31c1 { S with O_Barge := { S.O_Barge with f_place := va_up S.O_Barge.f_place a v } } b := by by_cases hb : b = a <;> first | (simp only [wPF, va_up_ne _ _ hb]; done) | (simp only [wPF, va_up, if_neg hb]; done) | simp [wPF, va_re, va_up, va_rf, hb, h]
theorem wPu_O_Barge_f_place (cyI : ClassId) (cyOc1f37 : ClassId) (cyOa31c1 : ClassId) (X : va_W) (S : wPS) {A : Nat → Prop} {a k : Nat} (hD : va_D A (X ++ va_pl S.L (wPF cyI cyOc1f37 cyOa31c1 S))) (hL : a ∈ S.L) (h : S.K a = 0) (hk : (X ++ va_pl S.L (wPF cyI cyOc1f37 cyOa31c1 S))[k]? = some (a, wPF cyI cyOc1f37 cyOa31c1 S a)) (v : Int32) : (X ++ va_pl S.L (wPF cyI cyOc1f37 cyOa31c1 S)).set k (a, .inr (0, [.int (S.O_Barge.f_ticket a), .int (S.O_Barge.f_wide a), .int v, .int (S.O_Barge.f_broken a)])) = X ++ va_pl S.L (wPF cyI cyOc1f37 cyOa31c1 { S with O_Barge := { S.O_Barge with f_place := va_up S.O_Barge.f_place a v } }) := by
  rw [va_pl_set hD hL hk]
  exact congrArg (fun l => X ++ l) (va_pl_congr (wSt_O_Barge_f_place cyI cyOc1f37 cyOa31c1 S h v))
theorem wSt_O_Barge_f_broken (cyI : ClassId) (cyOc1f37 : ClassId) (cyOa31c1 : ClassId) (S : wPS) {a : Nat} (h : S.K a = 0) (v : Int32) (b : Nat) : va_up (wPF cyI cyOc1f37 cyOa31c1 S) a (.inr (0, [.int (S.O_Barge.f_ticket a), .int (S.O_Barge.f_wide a), .int (S.O_Barge.f_place a), .int v])) b = wPF cyI cyOc1f37 cyOa31c1 { S with O_Barge := { S.O_Barge with f_broken := va_up S.O_Barge.f_broken a v } } b := by by_cases hb : b = a <;> first | (simp only [wPF, va_up_ne _ _ hb]; done) | (simp only [wPF, va_up, if_neg hb]; done) | simp [wPF, va_re, va_up, va_rf, hb, h]
theorem wPu_O_Barge_f_broken (cyI : ClassId) (cyOc1f37 : ClassId) (cyOa31c1 : ClassId) (X : va_W) (S : wPS) {A : Nat → Prop} {a k : Nat} (hD : va_D A (X ++ va_pl S.L (wPF cyI cyOc1f37 cyOa31c1 S))) (hL : a ∈ S.L) (h : S.K a = 0) (hk : (X ++ va_pl S.L (wPF cyI cyOc1f37 cyOa31c1 S))[k]? = some (a, wPF cyI cyOc1f37 cyOa31c1 S a)) (v : Int32) : (X ++ va_pl S.L (wPF cyI cyOc1f37 cyOa31c1 S)).set k (a, .inr (0, [.int (S.O_Barge.f_ticket a), .int (S.O_Barge.f_wide a), .int (S.O_Barge.f_place a), .int v])) = X ++ va_pl S.L (wPF cyI cyOc1f37 cyOa31c1 { S with O_Barge := { S.O_Barge with f_broken := va_up S.O_Barge.f_broken a v } }) := by
  rw [va_pl_set hD hL hk]
  exact congrArg (fun l => X ++ l) (va_pl_congr (wSt_O_Barge_f_broken cyI cyOc1f37 cyOa31c1 S h v))
theorem wNw_O_Barge (cyI : ClassId) (cyOc1f37 : ClassId) (cyOa31c1 : ClassId) (S : wPS) (a b : Nat) : va_up (wPF cyI cyOc1f37 cyOa31c1 S) a (.inr (0, [.int 0, .int 0, .int 0, .int 0])) b = wPF cyI cyOc1f37 cyOa31c1 { S with L := S.L ++ [a], K := va_up S.K a 0, O_Barge := { f_ticket := va_up S.O_Barge.f_ticket a 0, f_wide := va_up S.O_Barge.f_wide a 0, f_place := va_up S.O_Barge.f_place a 0, f_broken := va_up S.O_Barge.f_broken a 0 } } b := by by_cases hb : b = a <;> first | (simp only [wPF, va_up_ne _ _ hb]; done) | (simp only [wPF, va_up, if_neg hb]; done) | simp [wPF, va_re, va_up, va_rf, hb]
theorem wPn_O_Barge (cyI : ClassId) (cyOc1f37 : ClassId) (cyOa31c1 : ClassId) (X : va_W) (S : wPS) {a : Nat} (ha : a ∉ S.L) : (X ++ va_pl S.L (wPF cyI cyOc1f37 cyOa31c1 S)) ++ [(a, .inr (0, [.int 0, .int 0, .int 0, .int 0]))] = X ++ va_pl (S.L ++ [a]) (wPF cyI cyOc1f37 cyOa31c1 { S with L := S.L ++ [a], K := va_up S.K a 0, O_Barge := { f_ticket := va_up S.O_Barge.f_ticket a 0, f_wide := va_up S.O_Barge.f_wide a 0, f_place := va_up S.O_Barge.f_place a 0, f_broken := va_up S.O_Barge.f_broken a 0 } }) := by
  rw [List.append_assoc, va_pl_push ha]
  exact congrArg (fun l => X ++ l) (va_pl_congr (wNw_O_Barge cyI cyOc1f37 cyOa31c1 S a))
theorem wAt_O_Estuary (cyI : ClassId) (cyOc1f37 : ClassId) (cyOa31c1 : ClassId) (S : wPS) {a : Nat} (h : S.K a = 1) : wPF cyI cyOc1f37 cyOa31c1 S a = .inr (1, [va_rf (S.O_Estuary.f_table a), va_rf (S.O_Estuary.f_weirs a), va_rf (S.O_Estuary.f_order a), va_rf (S.O_Estuary.f_barges a), .int (S.O_Estuary.f_weirCount a), .int (S.O_Estuary.f_bargeCount a), .int (S.O_Estuary.f_night a), .int (S.O_Estuary.f_arrived a), .int (S.O_Estuary.f_fines a), .int (S.O_Estuary.f_rents a)]) := by simp [wPF, h]
theorem wGt_O_Estuary (cyI : ClassId) (cyOc1f37 : ClassId) (cyOa31c1 : ClassId) (X : va_W) (S : wPS) {a : Nat} (hL : a ∈ S.L) (h : S.K a = 1) : ∃ k : Nat, (X ++ va_pl S.L (wPF cyI cyOc1f37 cyOa31c1 S))[k]? = some (a, wPF cyI cyOc1f37 cyOa31c1 S a) ∧ (X ++ va_pl S.L (wPF cyI cyOc1f37 cyOa31c1 S))[k]? = some (a, .inr (1, [va_rf (S.O_Estuary.f_table a), va_rf (S.O_Estuary.f_weirs a), va_rf (S.O_Estuary.f_order a), va_rf (S.O_Estuary.f_barges a), .int (S.O_Estuary.f_weirCount a), .int (S.O_Estuary.f_bargeCount a), .int (S.O_Estuary.f_night a), .int (S.O_Estuary.f_arrived a), .int (S.O_Estuary.f_fines a), .int (S.O_Estuary.f_rents a)])) := by
  obtain ⟨k, hk⟩ := va_pl_get (X := X) (f := wPF cyI cyOc1f37 cyOa31c1 S) hL
  exact ⟨k, hk, hk.trans (congrArg (fun e => some (a, e)) (wAt_O_Estuary cyI cyOc1f37 cyOa31c1 S h))⟩
theorem wSt_O_Estuary_f_table (cyI : ClassId) (cyOc1f37 : ClassId) (cyOa31c1 : ClassId) (S : wPS) {a : Nat} (h : S.K a = 1) (v : Option Nat) (b : Nat) : va_up (wPF cyI cyOc1f37 cyOa31c1 S) a (.inr (1, [va_rf v, va_rf (S.O_Estuary.f_weirs a), va_rf (S.O_Estuary.f_order a), va_rf (S.O_Estuary.f_barges a), .int (S.O_Estuary.f_weirCount a), .int (S.O_Estuary.f_bargeCount a), .int (S.O_Estuary.f_night a), .int (S.O_Estuary.f_arrived a), .int (S.O_Estuary.f_fines a), .int (S.O_Estuary.f_rents a)])) b = wPF cyI cyOc1f37 cyOa31c1 { S with O_Estuary := { S.O_Estuary with f_table := va_up S.O_Estuary.f_table a v } } b := by by_cases hb : b = a <;> first | (simp only [wPF, va_up_ne _ _ hb]; done) | (simp only [wPF, va_up, if_neg hb]; done) | simp [wPF, va_re, va_up, va_rf, hb, h]
theorem wPu_O_Estuary_f_table (cyI : ClassId) (cyOc1f37 : ClassId) (cyOa31c1 : ClassId) (X : va_W) (S : wPS) {A : Nat → Prop} {a k : Nat} (hD : va_D A (X ++ va_pl S.L (wPF cyI cyOc1f37 cyOa31c1 S))) (hL : a ∈ S.L) (h : S.K a = 1) (hk : (X ++ va_pl S.L (wPF cyI cyOc1f37 cyOa31c1 S))[k]? = some (a, wPF cyI cyOc1f37 cyOa31c1 S a)) (v : Option Nat) : (X ++ va_pl S.L (wPF cyI cyOc1f37 cyOa31c1 S)).set k (a, .inr (1, [va_rf v, va_rf (S.O_Estuary.f_weirs a), va_rf (S.O_Estuary.f_order a), va_rf (S.O_Estuary.f_barges a), .int (S.O_Estuary.f_weirCount a), .int (S.O_Estuary.f_bargeCount a), .int (S.O_Estuary.f_night a), .int (S.O_Estuary.f_arrived a), .int (S.O_Estuary.f_fines a), .int (S.O_Estuary.f_rents a)])) = X ++ va_pl S.L (wPF cyI cyOc1f37 cyOa31c1 { S with O_Estuary := { S.O_Estuary with f_table := va_up S.O_Estuary.f_table a v } }) := by
  rw [va_pl_set hD hL hk]
  exact congrArg (fun l => X ++ l) (va_pl_congr (wSt_O_Estuary_f_table cyI cyOc1f37 cyOa31c1 S h v))
theorem wSt_O_Estuary_f_weirs (cyI : ClassId) (cyOc1f37 : ClassId) (cyOa31c1 : ClassId) (S : wPS) {a : Nat} (h : S.K a = 1) (v : Option Nat) (b : Nat) : va_up (wPF cyI cyOc1f37 cyOa31c1 S) a (.inr (1, [va_rf (S.O_Estuary.f_table a), va_rf v, va_rf (S.O_Estuary.f_order a), va_rf (S.O_Estuary.f_barges a), .int (S.O_Estuary.f_weirCount a), .int (S.O_Estuary.f_bargeCount a), .int (S.O_Estuary.f_night a), .int (S.O_Estuary.f_arrived a), .int (S.O_Estuary.f_fines a), .int (S.O_Estuary.f_rents a)])) b = wPF cyI cyOc1f37 cyOa31c1 { S with O_Estuary := { S.O_Estuary with f_weirs := va_up S.O_Estuary.f_weirs a v } } b := by by_cases hb : b = a <;> first | (simp only [wPF, va_up_ne _ _ hb]; done) | (simp only [wPF, va_up, if_neg hb]; done) | simp [wPF, va_re, va_up, va_rf, hb, h]
theorem wPu_O_Estuary_f_weirs (cyI : ClassId) (cyOc1f37 : ClassId) (cyOa31c1 : ClassId) (X : va_W) (S : wPS) {A : Nat → Prop} {a k : Nat} (hD : va_D A (X ++ va_pl S.L (wPF cyI cyOc1f37 cyOa31c1 S))) (hL : a ∈ S.L) (h : S.K a = 1) (hk : (X ++ va_pl S.L (wPF cyI cyOc1f37 cyOa31c1 S))[k]? = some (a, wPF cyI cyOc1f37 cyOa31c1 S a)) (v : Option Nat) : (X ++ va_pl S.L (wPF cyI cyOc1f37 cyOa31c1 S)).set k (a, .inr (1, [va_rf (S.O_Estuary.f_table a), va_rf v, va_rf (S.O_Estuary.f_order a), va_rf (S.O_Estuary.f_barges a), .int (S.O_Estuary.f_weirCount a), .int (S.O_Estuary.f_bargeCount a), .int (S.O_Estuary.f_night a), .int (S.O_Estuary.f_arrived a), .int (S.O_Estuary.f_fines a), .int (S.O_Estuary.f_rents a)])) = X ++ va_pl S.L (wPF cyI cyOc1f37 cyOa31c1 { S with O_Estuary := { S.O_Estuary with f_weirs := va_up S.O_Estuary.f_weirs a v } }) := by
  rw [va_pl_set hD hL hk]
  exact congrArg (fun l => X ++ l) (va_pl_congr (wSt_O_Estuary_f_weirs cyI cyOc1f37 cyOa31c1 S h v))
theorem wSt_O_Estuary_f_order (cyI : ClassId) (cyOc1f37 : ClassId) (cyOa31c1 : ClassId) (S : wPS) {a : Nat} (h : S.K a = 1) (v : Option Nat) (b : Nat) : va_up (wPF cyI cyOc1f37 cyOa31c1 S) a (.inr (1, [va_rf (S.O_Estuary.f_table a), va_rf (S.O_Estuary.f_weirs a), va_rf v, va_rf (S.O_Estuary.f_barges a), .int (S.O_Estuary.f_weirCount a), .int (S.O_Estuary.f_bargeCount a), .int (S.O_Estuary.f_night a), .int (S.O_Estuary.f_arrived a), .int (S.O_Estuary.f_fines a), .int (S.O_Estuary.f_rents a)])) b = wPF cyI cyOc1f37 cyOa31c1 { S with O_Estuary := { S.O_Estuary with f_order := va_up S.O_Estuary.f_order a v } } b := by by_cases hb : b = a <;> first | (simp only [wPF, va_up_ne _ _ hb]; done) | (simp only [wPF, va_up, if_neg hb]; done) | simp [wPF, va_re, va_up, va_rf, hb, h]
theorem wPu_O_Estuary_f_order (cyI : ClassId) (cyOc1f37 : ClassId) (cyOa31c1 : ClassId) (X : va_W) (S : wPS) {A : Nat → Prop} {a k : Nat} (hD : va_D A (X ++ va_pl S.L (wPF cyI cyOc1f37 cyOa31c1 S))) (hL : a ∈ S.L) (h : S.K a = 1) (hk : (X ++ va_pl S.L (wPF cyI cyOc1f37 cyOa31c1 S))[k]? = some (a, wPF cyI cyOc1f37 cyOa31c1 S a)) (v : Option Nat) : (X ++ va_pl S.L (wPF cyI cyOc1f37 cyOa31c1 S)).set k (a, .inr (1, [va_rf (S.O_Estuary.f_table a), va_rf (S.O_Estuary.f_weirs a), va_rf v, va_rf (S.O_Estuary.f_barges a), .int (S.O_Estuary.f_weirCount a), .int (S.O_Estuary.f_bargeCount a), .int (S.O_Estuary.f_night a), .int (S.O_Estuary.f_arrived a), .int (S.O_Estuary.f_fines a), .int (S.O_Estuary.f_rents a)])) = X ++ va_pl S.L (wPF cyI cyOc1f37 cyOa31c1 { S with O_Estuary := { S.O_Estuary with f_order := va_up S.O_Estuary.f_order a v } }) := by
  rw [va_pl_set hD hL hk]
  exact congrArg (fun l => X ++ l) (va_pl_congr (wSt_O_Estuary_f_order cyI cyOc1f37 cyOa31c1 S h v))
theorem wSt_O_Estuary_f_barges (cyI : ClassId) (cyOc1f37 : ClassId) (cyOa31c1 : ClassId) (S : wPS) {a : Nat} (h : S.K a = 1) (v : Option Nat) (b : Nat) : va_up (wPF cyI cyOc1f37 cyOa31c1 S) a (.inr (1, [va_rf (S.O_Estuary.f_table a), va_rf (S.O_Estuary.f_weirs a), va_rf (S.O_Estuary.f_order a), va_rf v, .int (S.O_Estuary.f_weirCount a), .int (S.O_Estuary.f_bargeCount a), .int (S.O_Estuary.f_night a), .int (S.O_Estuary.f_arrived a), .int (S.O_Estuary.f_fines a), .int (S.O_Estuary.f_rents a)])) b = wPF cyI cyOc1f37 cyOa31c1 { S with O_Estuary := { S.O_Estuary with f_barges := va_up S.O_Estuary.f_barges a v } } b := by by_cases hb : b = a <;> first | (simp only [wPF, va_up_ne _ _ hb]; done) | (simp only [wPF, va_up, if_neg hb]; done) | simp [wPF, va_re, va_up, va_rf, hb, h]
theorem wPu_O_Estuary_f_barges (cyI : ClassId) (cyOc1f37 : ClassId) (cyOa31c1 : ClassId) (X : va_W) (S : wPS) {A : Nat → Prop} {a k : Nat} (hD : va_D A (X ++ va_pl S.L (wPF cyI cyOc1f37 cyOa31c1 S))) (hL : a ∈ S.L) (h : S.K a = 1) (hk : (X ++ va_pl S.L (wPF cyI cyOc1f37 cyOa31c1 S))[k]? = some (a, wPF cyI cyOc1f37 cyOa31c1 S a)) (v : Option Nat) : (X ++ va_pl S.L (wPF cyI cyOc1f37 cyOa31c1 S)).set k (a, .inr (1, [va_rf (S.O_Estuary.f_table a), va_rf (S.O_Estuary.f_weirs a), va_rf (S.O_Estuary.f_order a), va_rf v, .int (S.O_Estuary.f_weirCount a), .int (S.O_Estuary.f_bargeCount a), .int (S.O_Estuary.f_night a), .int (S.O_Estuary.f_arrived a), .int (S.O_Estuary.f_fines a), .int (S.O_Estuary.f_rents a)])) = X ++ va_pl S.L (wPF cyI cyOc1f37 cyOa31c1 { S with O_Estuary := { S.O_Estuary with f_barges := va_up S.O_Estuary.f_barges a v } }) := by
  rw [va_pl_set hD hL hk]
  exact congrArg (fun l => X ++ l) (va_pl_congr (wSt_O_Estuary_f_barges cyI cyOc1f37 cyOa31c1 S h v))
theorem wSt_O_Estuary_f_weirCount (cyI : ClassId) (cyOc1f37 : ClassId) (cyOa31c1 : ClassId) (S : wPS) {a : Nat} (h : S.K a = 1) (v : Int32) (b : Nat) : va_up (wPF cyI cyOc1f37 cyOa31c1 S) a (.inr (1, [va_rf (S.O_Estuary.f_table a), va_rf (S.O_Estuary.f_weirs a), va_rf (S.O_Estuary.f_order a), va_rf (S.O_Estuary.f_barges a), .int v, .int (S.O_Estuary.f_bargeCount a), .int (S.O_Estuary.f_night a), .int (S.O_Estuary.f_arrived a), .int (S.O_Estuary.f_fines a), .int (S.O_Estuary.f_rents a)])) b = wPF cyI cyOc1f37 cyOa31c1 { S with O_Estuary := { S.O_Estuary with f_weirCount := va_up S.O_Estuary.f_weirCount a v } } b := by by_cases hb : b = a <;> first | (simp only [wPF, va_up_ne _ _ hb]; done) | (simp only [wPF, va_up, if_neg hb]; done) | simp [wPF, va_re, va_up, va_rf, hb, h]
theorem wPu_O_Estuary_f_weirCount (cyI : ClassId) (cyOc1f37 : ClassId) (cyOa31c1 : ClassId) (X : va_W) (S : wPS) {A : Nat → Prop} {a k : Nat} (hD : va_D A (X ++ va_pl S.L (wPF cyI cyOc1f37 cyOa31c1 S))) (hL : a ∈ S.L) (h : S.K a = 1) (hk : (X ++ va_pl S.L (wPF cyI cyOc1f37 cyOa31c1 S))[k]? = some (a, wPF cyI cyOc1f37 cyOa31c1 S a)) (v : Int32) : (X ++ va_pl S.L (wPF cyI cyOc1f37 cyOa31c1 S)).set k (a, .inr (1, [va_rf (S.O_Estuary.f_table a), va_rf (S.O_Estuary.f_weirs a), va_rf (S.O_Estuary.f_order a), va_rf (S.O_Estuary.f_barges a), .int v, .int (S.O_Estuary.f_bargeCount a), .int (S.O_Estuary.f_night a), .int (S.O_Estuary.f_arrived a), .int (S.O_Estuary.f_fines a), .int (S.O_Estuary.f_rents a)])) = X ++ va_pl S.L (wPF cyI cyOc1f37 cyOa31c1 { S with O_Estuary := { S.O_Estuary with f_weirCount := va_up S.O_Estuary.f_weirCount a v } }) := by
  rw [va_pl_set hD hL hk]
  exact congrArg (fun l => X ++ l) (va_pl_congr (wSt_O_Estuary_f_weirCount cyI cyOc1f37 cyOa31c1 S h v))
theorem wSt_O_Estuary_f_bargeCount (cyI : ClassId) (cyOc1f37 : ClassId) (cyOa31c1 : ClassId) (S : wPS) {a : Nat} (h : S.K a = 1) (v : Int32) (b : Nat) : va_up (wPF cyI cyOc1f37 cyOa31c1 S) a (.inr (1, [va_rf (S.O_Estuary.f_table a), va_rf (S.O_Estuary.f_weirs a), va_rf (S.O_Estuary.f_order a), va_rf (S.O_Estuary.f_barges a), .int (S.O_Estuary.f_weirCount a), .int v, .int (S.O_Estuary.f_night a), .int (S.O_Estuary.f_arrived a), .int (S.O_Estuary.f_fines a), .int (S.O_Estuary.f_rents a)])) b = wPF cyI cyOc1f37 cyOa31c1 { S with O_Estuary := { S.O_Estuary with f_bargeCount := va_up S.O_Estuary.f_bargeCount a v } } b := by by_cases hb : b = a <;> first | (simp only [wPF, va_up_ne _ _ hb]; done) | (simp only [wPF, va_up, if_neg hb]; done) | simp [wPF, va_re, va_up, va_rf, hb, h]
theorem wPu_O_Estuary_f_bargeCount (cyI : ClassId) (cyOc1f37 : ClassId) (cyOa31c1 : ClassId) (X : va_W) (S : wPS) {A : Nat → Prop} {a k : Nat} (hD : va_D A (X ++ va_pl S.L (wPF cyI cyOc1f37 cyOa31c1 S))) (hL : a ∈ S.L) (h : S.K a = 1) (hk : (X ++ va_pl S.L (wPF cyI cyOc1f37 cyOa31c1 S))[k]? = some (a, wPF cyI cyOc1f37 cyOa31c1 S a)) (v : Int32) : (X ++ va_pl S.L (wPF cyI cyOc1f37 cyOa31c1 S)).set k (a, .inr (1, [va_rf (S.O_Estuary.f_table a), va_rf (S.O_Estuary.f_weirs a), va_rf (S.O_Estuary.f_order a), va_rf (S.O_Estuary.f_barges a), .int (S.O_Estuary.f_weirCount a), .int v, .int (S.O_Estuary.f_night a), .int (S.O_Estuary.f_arrived a), .int (S.O_Estuary.f_fines a), .int (S.O_Estuary.f_rents a)])) = X ++ va_pl S.L (wPF cyI cyOc1f37 cyOa31c1 { S with O_Estuary := { S.O_Estuary with f_bargeCount := va_up S.O_Estuary.f_bargeCount a v } }) := by
  rw [va_pl_set hD hL hk]
  exact congrArg (fun l => X ++ l) (va_pl_congr (wSt_O_Estuary_f_bargeCount cyI cyOc1f37 cyOa31c1 S h v))
theorem wSt_O_Estuary_f_night (cyI : ClassId) (cyOc1f37 : ClassId) (cyOa31c1 : ClassId) (S : wPS) {a : Nat} (h : S.K a = 1) (v : Int32) (b : Nat) : va_up (wPF cyI cyOc1f37 cyOa31c1 S) a (.inr (1, [va_rf (S.O_Estuary.f_table a), va_rf (S.O_Estuary.f_weirs a), va_rf (S.O_Estuary.f_order a), va_rf (S.O_Estuary.f_barges a), .int (S.O_Estuary.f_weirCount a), .int (S.O_Estuary.f_bargeCount a), .int v, .int (S.O_Estuary.f_arrived a), .int (S.O_Estuary.f_fines a), .int (S.O_Estuary.f_rents a)])) b = wPF cyI cyOc1f37 cyOa31c1 { S with O_Estuary := { S.O_Estuary with f_night := va_up S.O_Estuary.f_night a v } } b := by by_cases hb : b = a <;> first | (simp only [wPF, va_up_ne _ _ hb]; done) | (simp only [wPF, va_up, if_neg hb]; done) | simp [wPF, va_re, va_up, va_rf, hb, h]
theorem wPu_O_Estuary_f_night (cyI : ClassId) (cyOc1f37 : ClassId) (cyOa31c1 : ClassId) (X : va_W) (S : wPS) {A : Nat → Prop} {a k : Nat} (hD : va_D A (X ++ va_pl S.L (wPF cyI cyOc1f37 cyOa31c1 S))) (hL : a ∈ S.L) (h : S.K a = 1) (hk : (X ++ va_pl S.L (wPF cyI cyOc1f37 cyOa31c1 S))[k]? = some (a, wPF cyI cyOc1f37 cyOa31c1 S a)) (v : Int32) : (X ++ va_pl S.L (wPF cyI cyOc1f37 cyOa31c1 S)).set k (a, .inr (1, [va_rf (S.O_Estuary.f_table a), va_rf (S.O_Estuary.f_weirs a), va_rf (S.O_Estuary.f_order a), va_rf (S.O_Estuary.f_barges a), .int (S.O_Estuary.f_weirCount a), .int (S.O_Estuary.f_bargeCount a), .int v, .int (S.O_Estuary.f_arrived a), .int (S.O_Estuary.f_fines a), .int (S.O_Estuary.f_rents a)])) = X ++ va_pl S.L (wPF cyI cyOc1f37 cyOa31c1 { S with O_Estuary := { S.O_Estuary with f_night := va_up S.O_Estuary.f_night a v } }) := by
  rw [va_pl_set hD hL hk]
  exact congrArg (fun l => X ++ l) (va_pl_congr (wSt_O_Estuary_f_night cyI cyOc1f37 cyOa31c1 S h v))
theorem wSt_O_Estuary_f_arrived (cyI : ClassId) (cyOc1f37 : ClassId) (cyOa31c1 : ClassId) (S : wPS) {a : Nat} (h : S.K a = 1) (v : Int32) (b : Nat) : va_up (wPF cyI cyOc1f37 cyOa31c1 S) a (.inr (1, [va_rf (S.O_Estuary.f_table a), va_rf (S.O_Estuary.f_weirs a), va_rf (S.O_Estuary.f_order a), va_rf (S.O_Estuary.f_barges a), .int (S.O_Estuary.f_weirCount a), .int (S.O_Estuary.f_bargeCount a), .int (S.O_Estuary.f_night a), .int v, .int (S.O_Estuary.f_fines a), .int (S.O_Estuary.f_rents a)])) b = wPF cyI cyOc1f37 cyOa31c1 { S with O_Estuary := { S.O_Estuary with f_arrived := va_up S.O_Estuary.f_arrived a v } } b := by by_cases hb : b = a <;> first | (simp only [wPF, va_up_ne _ _ hb]; done) | (simp only [wPF, va_up, if_neg hb]; done) | simp [wPF, va_re, va_up, va_rf, hb, h]
theorem wPu_O_Estuary_f_arrived (cyI : ClassId) (cyOc1f37 : ClassId) (cyOa31c1 : ClassId) (X : va_W) (S : wPS) {A : Nat → Prop} {a k : Nat} (hD : va_D A (X ++ va_pl S.L (wPF cyI cyOc1f37 cyOa31c1 S))) (hL : a ∈ S.L) (h : S.K a = 1) (hk : (X ++ va_pl S.L (wPF cyI cyOc1f37 cyOa31c1 S))[k]? = some (a, wPF cyI cyOc1f37 cyOa31c1 S a)) (v : Int32) : (X ++ va_pl S.L (wPF cyI cyOc1f37 cyOa31c1 S)).set k (a, .inr (1, [va_rf (S.O_Estuary.f_table a), va_rf (S.O_Estuary.f_weirs a), va_rf (S.O_Estuary.f_order a), va_rf (S.O_Estuary.f_barges a), .int (S.O_Estuary.f_weirCount a), .int (S.O_Estuary.f_bargeCount a), .int (S.O_Estuary.f_night a), .int v, .int (S.O_Estuary.f_fines a), .int (S.O_Estuary.f_rents a)])) = X ++ va_pl S.L (wPF cyI cyOc1f37 cyOa31c1 { S with O_Estuary := { S.O_Estuary with f_arrived := va_up S.O_Estuary.f_arrived a v } }) := by
  rw [va_pl_set hD hL hk]
  exact congrArg (fun l => X ++ l) (va_pl_congr (wSt_O_Estuary_f_arrived cyI cyOc1f37 cyOa31c1 S h v))
theorem wSt_O_Estuary_f_fines (cyI : ClassId) (cyOc1f37 : ClassId) (cyOa31c1 : ClassId) (S : wPS) {a : Nat} (h : S.K a = 1) (v : Int32) (b : Nat) : va_up (wPF cyI cyOc1f37 cyOa31c1 S) a (.inr (1, [va_rf (S.O_Estuary.f_table a), va_rf (S.O_Estuary.f_weirs a), va_rf (S.O_Estuary.f_order a), va_rf (S.O_Estuary.f_barges a), .int (S.O_Estuary.f_weirCount a), .int (S.O_Estuary.f_bargeCount a), .int (S.O_Estuary.f_night a), .int (S.O_Estuary.f_arrived a), .int v, .int (S.O_Estuary.f_rents a)])) b = wPF cyI cyOc1f37 cyOa31c1 { S with O_Estuary := { S.O_Estuary with f_fines := va_up S.O_Estuary.f_fines a v } } b := by by_cases hb : b = a <;> first | (simp only [wPF, va_up_ne _ _ hb]; done) | (simp only [wPF, va_up, if_neg hb]; done) | simp [wPF, va_re, va_up, va_rf, hb, h]
theorem wPu_O_Estuary_f_fines (cyI : ClassId) (cyOc1f37 : ClassId) (cyOa31c1 : ClassId) (X : va_W) (S : wPS) {A : Nat → Prop} {a k : Nat} (hD : va_D A (X ++ va_pl S.L (wPF cyI cyOc1f37 cyOa31c1 S))) (hL : a ∈ S.L) (h : S.K a = 1) (hk : (X ++ va_pl S.L (wPF cyI cyOc1f37 cyOa31c1 S))[k]? = some (a, wPF cyI cyOc1f37 cyOa31c1 S a)) (v : Int32) : (X ++ va_pl S.L (wPF cyI cyOc1f37 cyOa31c1 S)).set k (a, .inr (1, [va_rf (S.O_Estuary.f_table a), va_rf (S.O_Estuary.f_weirs a), va_rf (S.O_Estuary.f_order a), va_rf (S.O_Estuary.f_barges a), .int (S.O_Estuary.f_weirCount a), .int (S.O_Estuary.f_bargeCount a), .int (S.O_Estuary.f_night a), .int (S.O_Estuary.f_arrived a), .int v, .int (S.O_Estuary.f_rents a)])) = X ++ va_pl S.L (wPF cyI cyOc1f37 cyOa31c1 { S with O_Estuary := { S.O_Estuary with f_fines := va_up S.O_Estuary.f_fines a v } }) := by
  rw [va_pl_set hD hL hk]
  exact congrArg (fun l => X ++ l) (va_pl_congr (wSt_O_Estuary_f_fines cyI cyOc1f37 cyOa31c1 S h v))
theorem wSt_O_Estuary_f_rents (cyI : ClassId) (cyOc1f37 : ClassId) (cyOa31c1 : ClassId) (S : wPS) {a : Nat} (h : S.K a = 1) (v : Int32) (b : Nat) : va_up (wPF cyI cyOc1f37 cyOa31c1 S) a (.inr (1, [va_rf (S.O_Estuary.f_table a), va_rf (S.O_Estuary.f_weirs a), va_rf (S.O_Estuary.f_order a), va_rf (S.O_Estuary.f_barges a), .int (S.O_Estuary.f_weirCount a), .int (S.O_Estuary.f_bargeCount a), .int (S.O_Estuary.f_night a), .int (S.O_Estuary.f_arrived a), .int (S.O_Estuary.f_fines a), .int v])) b = wPF cyI cyOc1f37 cyOa31c1 { S with O_Estuary := { S.O_Estuary with f_rents := va_up S.O_Estuary.f_rents a v } } b := by by_cases hb : b = a <;> first | (simp only [wPF, va_up_ne _ _ hb]; done) | (simp only [wPF, va_up, if_neg hb]; done) | simp [wPF, va_re, va_up, va_rf, hb, h]
theorem wPu_O_Estuary_f_rents (cyI : ClassId) (cyOc1f37 : ClassId) (cyOa31c1 : ClassId) (X : va_W) (S : wPS) {A : Nat → Prop} {a k : Nat} (hD : va_D A (X ++ va_pl S.L (wPF cyI cyOc1f37 cyOa31c1 S))) (hL : a ∈ S.L) (h : S.K a = 1) (hk : (X ++ va_pl S.L (wPF cyI cyOc1f37 cyOa31c1 S))[k]? = some (a, wPF cyI cyOc1f37 cyOa31c1 S a)) (v : Int32) : (X ++ va_pl S.L (wPF cyI cyOc1f37 cyOa31c1 S)).set k (a, .inr (1, [va_rf (S.O_Estuary.f_table a), va_rf (S.O_Estuary.f_weirs a), va_rf (S.O_Estuary.f_order a), va_rf (S.O_Estuary.f_barges a), .int (S.O_Estuary.f_weirCount a), .int (S.O_Estuary.f_bargeCount a), .int (S.O_Estuary.f_night a), .int (S.O_Estuary.f_arrived a), .int (S.O_Estuary.f_fines a), .int v])) = X ++ va_pl S.L (wPF cyI cyOc1f37 cyOa31c1 { S with O_Estuary := { S.O_Estuary with f_rents := va_up S.O_Estuary.f_rents a v } }) := by
  rw [va_pl_set hD hL hk]
  exact congrArg (fun l => X ++ l) (va_pl_congr (wSt_O_Estuary_f_rents cyI cyOc1f37 cyOa31c1 S h v))
theorem wNw_O_Estuary (cyI : ClassId) (cyOc1f37 : ClassId) (cyOa31c1 : ClassId) (S : wPS) (a b : Nat) : va_up (wPF cyI cyOc1f37 cyOa31c1 S) a (.inr (1, [.null, .null, .null, .null, .int 0, .int 0, .int 0, .int 0, .int 0, .int 0])) b = wPF cyI cyOc1f37 cyOa31c1 { S with L := S.L ++ [a], K := va_up S.K a 1, O_Estuary := { f_table := va_up S.O_Estuary.f_table a none, f_weirs := va_up S.O_Estuary.f_weirs a none, f_order := va_up S.O_Estuary.f_order a none, f_barges := va_up S.O_Estuary.f_barges a none, f_weirCount := va_up S.O_Estuary.f_weirCount a 0, f_bargeCount := va_up S.O_Estuary.f_bargeCount a 0, f_night := va_up S.O_Estuary.f_night a 0, f_arrived := va_up S.O_Estuary.f_arrived a 0, f_fines := va_up S.O_Estuary.f_fines a 0, f_rents := va_up S.O_Estuary.f_rents a 0 } } b := by by_cases hb : b = a <;> first | (simp only [wPF, va_up_ne _ _ hb]; done) | (simp only [wPF, va_up, if_neg hb]; done) | simp [wPF, va_re, va_up, va_rf, hb]
theorem wPn_O_Estuary (cyI : ClassId) (cyOc1f37 : ClassId) (cyOa31c1 : ClassId) (X : va_W) (S : wPS) {a : Nat} (ha : a ∉ S.L) : (X ++ va_pl S.L (wPF cyI cyOc1f37 cyOa31c1 S)) ++ [(a, .inr (1, [.null, .null, .null, .null, .int 0, .int 0, .int 0, .int 0, .int 0, .int 0]))] = X ++ va_pl (S.L ++ [a]) (wPF cyI cyOc1f37 cyOa31c1 { S with L := S.L ++ [a], K := va_up S.K a 1, O_Estuary := { f_table := va_up S.O_Estuary.f_table a none, f_weirs := va_up S.O_Estuary.f_weirs a none, f_order := va_up S.O_Estuary.f_order a none, f_barges := va_up S.O_Estuary.f_barges a none, f_weirCount := va_up S.O_Estuary.f_weirCount a 0, f_bargeCount := va_up S.O_Estuary.f_bargeCount a 0, f_night := va_up S.O_Estuary.f_night a 0, f_arrived := va_up S.O_Estuary.f_arrived a 0, f_fines := va_up S.O_Estuary.f_fines a 0, f_rents := va_up S.O_Estuary.f_rents a 0 } }) := by
  rw [List.append_assoc, va_pl_push ha]
  exact congrArg (fun l => X ++ l) (va_pl_congr (wNw_O_Estuary cyI cyOc1f37 cyOa31c1 S a))
theorem wAt_O_Weir (cyI : ClassId) (cyOc1f37 : ClassId) (cyOa31c1 : ClassId) (S : wPS) {a : Nat} (h : S.K a = 2) : wPF cyI cyOc1f37 cyOa31c1 S a = .inr (2, [.int (S.O_Weir.f_place a), .int (S.O_Weir.f_stakes a), .int (S.O_Weir.f_wattle a), .int (S.O_Weir.f_rent a), .int (S.O_Weir.f_coins a), .int (S.O_Weir.f_eels a), .int (S.O_Weir.f_open a), .int (S.O_Weir.f_owed a)]) := by simp [wPF, h]
theorem wGt_O_Weir (cyI : ClassId) (cyOc1f37 : ClassId) (cyOa31c1 : ClassId) (X : va_W) (S : wPS) {a : Nat} (hL : a ∈ S.L) (h : S.K a = 2) : ∃ k : Nat, (X ++ va_pl S.L (wPF cyI cyOc1f37 cyOa31c1 S))[k]? = some (a, wPF cyI cyOc1f37 cyOa31c1 S a) ∧ (X ++ va_pl S.L (wPF cyI cyOc1f37 cyOa31c1 S))[k]? = some (a, .inr (2, [.int (S.O_Weir.f_place a), .int (S.O_Weir.f_stakes a), .int (S.O_Weir.f_wattle a), .int (S.O_Weir.f_rent a), .int (S.O_Weir.f_coins a), .int (S.O_Weir.f_eels a), .int (S.O_Weir.f_open a), .int (S.O_Weir.f_owed a)])) := by
  obtain ⟨k, hk⟩ := va_pl_get (X := X) (f := wPF cyI cyOc1f37 cyOa31c1 S) hL
  exact ⟨k, hk, hk.trans (congrArg (fun e => some (a, e)) (wAt_O_Weir cyI cyOc1f37 cyOa31c1 S h))⟩
theorem wSt_O_Weir_f_place (cyI : ClassId) (cyOc1f37 : ClassId) (cyOa31c1 : ClassId) (S : wPS) {a : Nat} (h : S.K a = 2) (v : Int32) (b : Nat) : va_up (wPF cyI cyOc1f37 cyOa31c1 S) a (.inr (2, [.int v, .int (S.O_Weir.f_stakes a), .int (S.O_Weir.f_wattle a), .int (S.O_Weir.f_rent a), .int (S.O_Weir.f_coins a), .int (S.O_Weir.f_eels a), .int (S.O_Weir.f_open a), .int (S.O_Weir.f_owed a)])) b = wPF cyI cyOc1f37 cyOa31c1 { S with O_Weir := { S.O_Weir with f_place := va_up S.O_Weir.f_place a v } } b := by by_cases hb : b = a <;> first | (simp only [wPF, va_up_ne _ _ hb]; done) | (simp only [wPF, va_up, if_neg hb]; done) | simp [wPF, va_re, va_up, va_rf, hb, h]
theorem wPu_O_Weir_f_place (cyI : ClassId) (cyOc1f37 : ClassId) (cyOa31c1 : ClassId) (X : va_W) (S : wPS) {A : Nat → Prop} {a k : Nat} (hD : va_D A (X ++ va_pl S.L (wPF cyI cyOc1f37 cyOa31c1 S))) (hL : a ∈ S.L) (h : S.K a = 2) (hk : (X ++ va_pl S.L (wPF cyI cyOc1f37 cyOa31c1 S))[k]? = some (a, wPF cyI cyOc1f37 cyOa31c1 S a)) (v : Int32) : (X ++ va_pl S.L (wPF cyI cyOc1f37 cyOa31c1 S)).set k (a, .inr (2, [.int v, .int (S.O_Weir.f_stakes a), .int (S.O_Weir.f_wattle a), .int (S.O_Weir.f_rent a), .int (S.O_Weir.f_coins a), .int (S.O_Weir.f_eels a), .int (S.O_Weir.f_open a), .int (S.O_Weir.f_owed a)])) = X ++ va_pl S.L (wPF cyI cyOc1f37 cyOa31c1 { S with O_Weir := { S.O_Weir with f_place := va_up S.O_Weir.f_place a v } }) := by
  rw [va_pl_set hD hL hk]
  exact congrArg (fun l => X ++ l) (va_pl_congr (wSt_O_Weir_f_place cyI cyOc1f37 cyOa31c1 S h v))
theorem wSt_O_Weir_f_stakes (cyI : ClassId) (cyOc1f37 : ClassId) (cyOa31c1 : ClassId) (S : wPS) {a : Nat} (h : S.K a = 2) (v : Int32) (b : Nat) : va_up (wPF cyI cyOc1f37 cyOa31c1 S) a (.inr (2, [.int (S.O_Weir.f_place a), .int v, .int (S.O_Weir.f_wattle a), .int (S.O_Weir.f_rent a), .int (S.O_Weir.f_coins a), .int (S.O_Weir.f_eels a), .int (S.O_Weir.f_open a), .int (S.O_Weir.f_owed a)])) b = wPF cyI cyOc1f37 cyOa31c1 { S with O_Weir := { S.O_Weir with f_stakes := va_up S.O_Weir.f_stakes a v } } b := by by_cases hb : b = a <;> first | (simp only [wPF, va_up_ne _ _ hb]; done) | (simp only [wPF, va_up, if_neg hb]; done) | simp [wPF, va_re, va_up, va_rf, hb, h]
theorem wPu_O_Weir_f_stakes (cyI : ClassId) (cyOc1f37 : ClassId) (cyOa31c1 : ClassId) (X : va_W) (S : wPS) {A : Nat → Prop} {a k : Nat} (hD : va_D A (X ++ va_pl S.L (wPF cyI cyOc1f37 cyOa31c1 S))) (hL : a ∈ S.L) (h : S.K a = 2) (hk : (X ++ va_pl S.L (wPF cyI cyOc1f37 cyOa31c1 S))[k]? = some (a, wPF cyI cyOc1f37 cyOa31c1 S a)) (v : Int32) : (X ++ va_pl S.L (wPF cyI cyOc1f37 cyOa31c1 S)).set k (a, .inr (2, [.int (S.O_Weir.f_place a), .int v, .int (S.O_Weir.f_wattle a), .int (S.O_Weir.f_rent a), .int (S.O_Weir.f_coins a), .int (S.O_Weir.f_eels a), .int (S.O_Weir.f_open a), .int (S.O_Weir.f_owed a)])) = X ++ va_pl S.L (wPF cyI cyOc1f37 cyOa31c1 { S with O_Weir := { S.O_Weir with f_stakes := va_up S.O_Weir.f_stakes a v } }) := by
  rw [va_pl_set hD hL hk]
  exact congrArg (fun l => X ++ l) (va_pl_congr (wSt_O_Weir_f_stakes cyI cyOc1f37 cyOa31c1 S h v))
theorem wSt_O_Weir_f_wattle (cyI : ClassId) (cyOc1f37 : ClassId) (cyOa31c1 : ClassId) (S : wPS) {a : Nat} (h : S.K a = 2) (v : Int32) (b : Nat) : va_up (wPF cyI cyOc1f37 cyOa31c1 S) a (.inr (2, [.int (S.O_Weir.f_place a), .int (S.O_Weir.f_stakes a), .int v, .int (S.O_Weir.f_rent a), .int (S.O_Weir.f_coins a), .int (S.O_Weir.f_eels a), .int (S.O_Weir.f_open a), .int (S.O_Weir.f_owed a)])) b = wPF cyI cyOc1f37 cyOa31c1 { S with O_Weir := { S.O_Weir with f_wattle := va_up S.O_Weir.f_wattle a v } } b := by by_cases hb : b = a <;> first | (simp only [wPF, va_up_ne _ _ hb]; done) | (simp only [wPF, va_up, if_neg hb]; done) | simp [wPF, va_re, va_up, va_rf, hb, h]
theorem wPu_O_Weir_f_wattle (cyI : ClassId) (cyOc1f37 : ClassId) (cyOa31c1 : ClassId) (X : va_W) (S : wPS) {A : Nat → Prop} {a k : Nat} (hD : va_D A (X ++ va_pl S.L (wPF cyI cyOc1f37 cyOa31c1 S))) (hL : a ∈ S.L) (h : S.K a = 2) (hk : (X ++ va_pl S.L (wPF cyI cyOc1f37 cyOa31c1 S))[k]? = some (a, wPF cyI cyOc1f37 cyOa31c1 S a)) (v : Int32) : (X ++ va_pl S.L (wPF cyI cyOc1f37 cyOa31c1 S)).set k (a, .inr (2, [.int (S.O_Weir.f_place a), .int (S.O_Weir.f_stakes a), .int v, .int (S.O_Weir.f_rent a), .int (S.O_Weir.f_coins a), .int (S.O_Weir.f_eels a), .int (S.O_Weir.f_open a), .int (S.O_Weir.f_owed a)])) = X ++ va_pl S.L (wPF cyI cyOc1f37 cyOa31c1 { S with O_Weir := { S.O_Weir with f_wattle := va_up S.O_Weir.f_wattle a v } }) := by
  rw [va_pl_set hD hL hk]
  exact congrArg (fun l => X ++ l) (va_pl_congr (wSt_O_Weir_f_wattle cyI cyOc1f37 cyOa31c1 S h v))
theorem wSt_O_Weir_f_rent (cyI : ClassId) (cyOc1f37 : ClassId) (cyOa31c1 : ClassId) (S : wPS) {a : Nat} (h : S.K a = 2) (v : Int32) (b : Nat) : va_up (wPF cyI cyOc1f37 cyOa31c1 S) a (.inr (2, [.int (S.O_Weir.f_place a), .int (S.O_Weir.f_stakes a), .int (S.O_Weir.f_wattle a), .int v, .int (S.O_Weir.f_coins a), .int (S.O_Weir.f_eels a), .int (S.O_Weir.f_open a), .int (S.O_Weir.f_owed a)])) b = wPF cyI cyOc1f37 cyOa31c1 { S with O_Weir := { S.O_Weir with f_rent := va_up S.O_Weir.f_rent a v } } b := by by_cases hb : b = a <;> first | (simp only [wPF, va_up_ne _ _ hb]; done) | (simp only [wPF, va_up, if_neg hb]; done) | simp [wPF, va_re, va_up, va_rf, hb, h]
theorem wPu_O_Weir_f_rent (cyI : ClassId) (cyOc1f37 : ClassId) (cyOa31c1 : ClassId) (X : va_W) (S : wPS) {A : Nat → Prop} {a k : Nat} (hD : va_D A (X ++ va_pl S.L (wPF cyI cyOc1f37 cyOa31c1 S))) (hL : a ∈ S.L) (h : S.K a = 2) (hk : (X ++ va_pl S.L (wPF cyI cyOc1f37 cyOa31c1 S))[k]? = some (a, wPF cyI cyOc1f37 cyOa31c1 S a)) (v : Int32) : (X ++ va_pl S.L (wPF cyI cyOc1f37 cyOa31c1 S)).set k (a, .inr (2, [.int (S.O_Weir.f_place a), .int (S.O_Weir.f_stakes a), .int (S.O_Weir.f_wattle a), .int v, .int (S.O_Weir.f_coins a), .int (S.O_Weir.f_eels a), .int (S.O_Weir.f_open a), .int (S.O_Weir.f_owed a)])) = X ++ va_pl S.L (wPF cyI cyOc1f37 cyOa31c1 { S with O_Weir := { S.O_Weir with f_rent := va_up S.O_Weir.f_rent a v } }) := by
  rw [va_pl_set hD hL hk]
  exact congrArg (fun l => X ++ l) (va_pl_congr (wSt_O_Weir_f_rent cyI cyOc1f37 cyOa31c1 S h v))
theorem wSt_O_Weir_f_coins (cyI : ClassId) (cyOc1f37 : ClassId) (cyOa31c1 : ClassId) (S : wPS) {a : Nat} (h : S.K a = 2) (v : Int32) (b : Nat) : va_up (wPF cyI cyOc1f37 cyOa31c1 S) a (.inr (2, [.int (S.O_Weir.f_place a), .int (S.O_Weir.f_stakes a), .int (S.O_Weir.f_wattle a), .int (S.O_Weir.f_rent a), .int v, .int (S.O_Weir.f_eels a), .int (S.O_Weir.f_open a), .int (S.O_Weir.f_owed a)])) b = wPF cyI cyOc1f37 cyOa31c1 { S with O_Weir := { S.O_Weir with f_coins := va_up S.O_Weir.f_coins a v } } b := by by_cases hb : b = a <;> first | (simp only [wPF, va_up_ne _ _ hb]; done) | (simp only [wPF, va_up, if_neg hb]; done) | simp [wPF, va_re, va_up, va_rf, hb, h]
theorem wPu_O_Weir_f_coins (cyI : ClassId) (cyOc1f37 : ClassId) (cyOa31c1 : ClassId) (X : va_W) (S : wPS) {A : Nat → Prop} {a k : Nat} (hD : va_D A (X ++ va_pl S.L (wPF cyI cyOc1f37 cyOa31c1 S))) (hL : a ∈ S.L) (h : S.K a = 2) (hk : (X ++ va_pl S.L (wPF cyI cyOc1f37 cyOa31c1 S))[k]? = some (a, wPF cyI cyOc1f37 cyOa31c1 S a)) (v : Int32) : (X ++ va_pl S.L (wPF cyI cyOc1f37 cyOa31c1 S)).set k (a, .inr (2, [.int (S.O_Weir.f_place a), .int (S.O_Weir.f_stakes a), .int (S.O_Weir.f_wattle a), .int (S.O_Weir.f_rent a), .int v, .int (S.O_Weir.f_eels a), .int (S.O_Weir.f_open a), .int (S.O_Weir.f_owed a)])) = X ++ va_pl S.L (wPF cyI cyOc1f37 cyOa31c1 { S with O_Weir := { S.O_Weir with f_coins := va_up S.O_Weir.f_coins a v } }) := by
  rw [va_pl_set hD hL hk]
  exact congrArg (fun l => X ++ l) (va_pl_congr (wSt_O_Weir_f_coins cyI cyOc1f37 cyOa31c1 S h v))
theorem wSt_O_Weir_f_eels (cyI : ClassId) (cyOc1f37 : ClassId) (cyOa31c1 : ClassId) (S : wPS) {a : Nat} (h : S.K a = 2) (v : Int32) (b : Nat) : va_up (wPF cyI cyOc1f37 cyOa31c1 S) a (.inr (2, [.int (S.O_Weir.f_place a), .int (S.O_Weir.f_stakes a), .int (S.O_Weir.f_wattle a), .int (S.O_Weir.f_rent a), .int (S.O_Weir.f_coins a), .int v, .int (S.O_Weir.f_open a), .int (S.O_Weir.f_owed a)])) b = wPF cyI cyOc1f37 cyOa31c1 { S with O_Weir := { S.O_Weir with f_eels := va_up S.O_Weir.f_eels a v } } b := by by_cases hb : b = a <;> first | (simp only [wPF, va_up_ne _ _ hb]; done) | (simp only [wPF, va_up, if_neg hb]; done) | simp [wPF, va_re, va_up, va_rf, hb, h]
theorem wPu_O_Weir_f_eels (cyI : ClassId) (cyOc1f37 : ClassId) (cyOa31c1 : ClassId) (X : va_W) (S : wPS) {A : Nat → Prop} {a k : Nat} (hD : va_D A (X ++ va_pl S.L (wPF cyI cyOc1f37 cyOa31c1 S))) (hL : a ∈ S.L) (h : S.K a = 2) (hk : (X ++ va_pl S.L (wPF cyI cyOc1f37 cyOa31c1 S))[k]? = some (a, wPF cyI cyOc1f37 cyOa31c1 S a)) (v : Int32) : (X ++ va_pl S.L (wPF cyI cyOc1f37 cyOa31c1 S)).set k (a, .inr (2, [.int (S.O_Weir.f_place a), .int (S.O_Weir.f_stakes a), .int (S.O_Weir.f_wattle a), .int (S.O_Weir.f_rent a), .int (S.O_Weir.f_coins a), .int v, .int (S.O_Weir.f_open a), .int (S.O_Weir.f_owed a)])) = X ++ va_pl S.L (wPF cyI cyOc1f37 cyOa31c1 { S with O_Weir := { S.O_Weir with f_eels := va_up S.O_Weir.f_eels a v } }) := by
  rw [va_pl_set hD hL hk]
  exact congrArg (fun l => X ++ l) (va_pl_congr (wSt_O_Weir_f_eels cyI cyOc1f37 cyOa31c1 S h v))
theorem wSt_O_Weir_f_open (cyI : ClassId) (cyOc1f37 : ClassId) (cyOa31c1 : ClassId) (S : wPS) {a : Nat} (h : S.K a = 2) (v : Int32) (b : Nat) : va_up (wPF cyI cyOc1f37 cyOa31c1 S) a (.inr (2, [.int (S.O_Weir.f_place a), .int (S.O_Weir.f_stakes a), .int (S.O_Weir.f_wattle a), .int (S.O_Weir.f_rent a), .int (S.O_Weir.f_coins a), .int (S.O_Weir.f_eels a), .int v, .int (S.O_Weir.f_owed a)])) b = wPF cyI cyOc1f37 cyOa31c1 { S with O_Weir := { S.O_Weir with f_open := va_up S.O_Weir.f_open a v } } b := by by_cases hb : b = a <;> first | (simp only [wPF, va_up_ne _ _ hb]; done) | (simp only [wPF, va_up, if_neg hb]; done) | simp [wPF, va_re, va_up, va_rf, hb, h]
theorem wPu_O_Weir_f_open (cyI : ClassId) (cyOc1f37 : ClassId) (cyOa31c1 : ClassId) (X : va_W) (S : wPS) {A : Nat → Prop} {a k : Nat} (hD : va_D A (X ++ va_pl S.L (wPF cyI cyOc1f37 cyOa31c1 S))) (hL : a ∈ S.L) (h : S.K a = 2) (hk : (X ++ va_pl S.L (wPF cyI cyOc1f37 cyOa31c1 S))[k]? = some (a, wPF cyI cyOc1f37 cyOa31c1 S a)) (v : Int32) : (X ++ va_pl S.L (wPF cyI cyOc1f37 cyOa31c1 S)).set k (a, .inr (2, [.int (S.O_Weir.f_place a), .int (S.O_Weir.f_stakes a), .int (S.O_Weir.f_wattle a), .int (S.O_Weir.f_rent a), .int (S.O_Weir.f_coins a), .int (S.O_Weir.f_eels a), .int v, .int (S.O_Weir.f_owed a)])) = X ++ va_pl S.L (wPF cyI cyOc1f37 cyOa31c1 { S with O_Weir := { S.O_Weir with f_open := va_up S.O_Weir.f_open a v } }) := by
  rw [va_pl_set hD hL hk]
  exact congrArg (fun l => X ++ l) (va_pl_congr (wSt_O_Weir_f_open cyI cyOc1f37 cyOa31c1 S h v))
theorem wSt_O_Weir_f_owed (cyI : ClassId) (cyOc1f37 : ClassId) (cyOa31c1 : ClassId) (S : wPS) {a : Nat} (h : S.K a = 2) (v : Int32) (b : Nat) : va_up (wPF cyI cyOc1f37 cyOa31c1 S) a (.inr (2, [.int (S.O_Weir.f_place a), .int (S.O_Weir.f_stakes a), .int (S.O_Weir.f_wattle a), .int (S.O_Weir.f_rent a), .int (S.O_Weir.f_coins a), .int (S.O_Weir.f_eels a), .int (S.O_Weir.f_open a), .int v])) b = wPF cyI cyOc1f37 cyOa31c1 { S with O_Weir := { S.O_Weir with f_owed := va_up S.O_Weir.f_owed a v } } b := by by_cases hb : b = a <;> first | (simp only [wPF, va_up_ne _ _ hb]; done) | (simp only [wPF, va_up, if_neg hb]; done) | simp [wPF, va_re, va_up, va_rf, hb, h]
theorem wPu_O_Weir_f_owed (cyI : ClassId) (cyOc1f37 : ClassId) (cyOa31c1 : ClassId) (X : va_W) (S : wPS) {A : Nat → Prop} {a k : Nat} (hD : va_D A (X ++ va_pl S.L (wPF cyI cyOc1f37 cyOa31c1 S))) (hL : a ∈ S.L) (h : S.K a = 2) (hk : (X ++ va_pl S.L (wPF cyI cyOc1f37 cyOa31c1 S))[k]? = some (a, wPF cyI cyOc1f37 cyOa31c1 S a)) (v : Int32) : (X ++ va_pl S.L (wPF cyI cyOc1f37 cyOa31c1 S)).set k (a, .inr (2, [.int (S.O_Weir.f_place a), .int (S.O_Weir.f_stakes a), .int (S.O_Weir.f_wattle a), .int (S.O_Weir.f_rent a), .int (S.O_Weir.f_coins a), .int (S.O_Weir.f_eels a), .int (S.O_Weir.f_open a), .int v])) = X ++ va_pl S.L (wPF cyI cyOc1f37 cyOa31c1 { S with O_Weir := { S.O_Weir with f_owed := va_up S.O_Weir.f_owed a v } }) := by
  rw [va_pl_set hD hL hk]
  exact congrArg (fun l => X ++ l) (va_pl_congr (wSt_O_Weir_f_owed cyI cyOc1f37 cyOa31c1 S h v))
theorem wNw_O_Weir (cyI : ClassId) (cyOc1f37 : ClassId) (cyOa31c1 : ClassId) (S : wPS) (a b : Nat) : va_up (wPF cyI cyOc1f37 cyOa31c1 S) a (.inr (2, [.int 0, .int 0, .int 0, .int 0, .int 0, .int 0, .int 0, .int 0])) b = wPF cyI cyOc1f37 cyOa31c1 { S with L := S.L ++ [a], K := va_up S.K a 2, O_Weir := { f_place := va_up S.O_Weir.f_place a 0, f_stakes := va_up S.O_Weir.f_stakes a 0, f_wattle := va_up S.O_Weir.f_wattle a 0, f_rent := va_up S.O_Weir.f_rent a 0, f_coins := va_up S.O_Weir.f_coins a 0, f_eels := va_up S.O_Weir.f_eels a 0, f_open := va_up S.O_Weir.f_open a 0, f_owed := va_up S.O_Weir.f_owed a 0 } } b := by by_cases hb : b = a <;> first | (simp only [wPF, va_up_ne _ _ hb]; done) | (simp only [wPF, va_up, if_neg hb]; done) | simp [wPF, va_re, va_up, va_rf, hb]
theorem wPn_O_Weir (cyI : ClassId) (cyOc1f37 : ClassId) (cyOa31c1 : ClassId) (X : va_W) (S : wPS) {a : Nat} (ha : a ∉ S.L) : (X ++ va_pl S.L (wPF cyI cyOc1f37 cyOa31c1 S)) ++ [(a, .inr (2, [.int 0, .int 0, .int 0, .int 0, .int 0, .int 0, .int 0, .int 0]))] = X ++ va_pl (S.L ++ [a]) (wPF cyI cyOc1f37 cyOa31c1 { S with L := S.L ++ [a], K := va_up S.K a 2, O_Weir := { f_place := va_up S.O_Weir.f_place a 0, f_stakes := va_up S.O_Weir.f_stakes a 0, f_wattle := va_up S.O_Weir.f_wattle a 0, f_rent := va_up S.O_Weir.f_rent a 0, f_coins := va_up S.O_Weir.f_coins a 0, f_eels := va_up S.O_Weir.f_eels a 0, f_open := va_up S.O_Weir.f_open a 0, f_owed := va_up S.O_Weir.f_owed a 0 } }) := by
  rw [List.append_assoc, va_pl_push ha]
  exact congrArg (fun l => X ++ l) (va_pl_congr (wNw_O_Weir cyI cyOc1f37 cyOa31c1 S a))
theorem wAt_O_StakeWeirs (cyI : ClassId) (cyOc1f37 : ClassId) (cyOa31c1 : ClassId) (S : wPS) {a : Nat} (h : S.K a = 3) : wPF cyI cyOc1f37 cyOa31c1 S a = .inr (3, [va_rf (S.O_StakeWeirs.f_now a), va_rf (S.O_StakeWeirs.f_trial a)]) := by simp [wPF, h]
theorem wGt_O_StakeWeirs (cyI : ClassId) (cyOc1f37 : ClassId) (cyOa31c1 : ClassId) (X : va_W) (S : wPS) {a : Nat} (hL : a ∈ S.L) (h : S.K a = 3) : ∃ k : Nat, (X ++ va_pl S.L (wPF cyI cyOc1f37 cyOa31c1 S))[k]? = some (a, wPF cyI cyOc1f37 cyOa31c1 S a) ∧ (X ++ va_pl S.L (wPF cyI cyOc1f37 cyOa31c1 S))[k]? = some (a, .inr (3, [va_rf (S.O_StakeWeirs.f_now a), va_rf (S.O_StakeWeirs.f_trial a)])) := by
  obtain ⟨k, hk⟩ := va_pl_get (X := X) (f := wPF cyI cyOc1f37 cyOa31c1 S) hL
  exact ⟨k, hk, hk.trans (congrArg (fun e => some (a, e)) (wAt_O_StakeWeirs cyI cyOc1f37 cyOa31c1 S h))⟩
theorem wSt_O_StakeWeirs_f_now (cyI : ClassId) (cyOc1f37 : ClassId) (cyOa31c1 : ClassId) (S : wPS) {a : Nat} (h : S.K a = 3) (v : Option Nat) (b : Nat) : va_up (wPF cyI cyOc1f37 cyOa31c1 S) a (.inr (3, [va_rf v, va_rf (S.O_StakeWeirs.f_trial a)])) b = wPF cyI cyOc1f37 cyOa31c1 { S with O_StakeWeirs := { S.O_StakeWeirs with f_now := va_up S.O_StakeWeirs.f_now a v } } b := by by_cases hb : b = a <;> first | (simp only [wPF, va_up_ne _ _ hb]; done) | (simp only [wPF, va_up, if_neg hb]; done) | simp [wPF, va_re, va_up, va_rf, hb, h]
theorem wPu_O_StakeWeirs_f_now (cyI : ClassId) (cyOc1f37 : ClassId) (cyOa31c1 : ClassId) (X : va_W) (S : wPS) {A : Nat → Prop} {a k : Nat} (hD : va_D A (X ++ va_pl S.L (wPF cyI cyOc1f37 cyOa31c1 S))) (hL : a ∈ S.L) (h : S.K a = 3) (hk : (X ++ va_pl S.L (wPF cyI cyOc1f37 cyOa31c1 S))[k]? = some (a, wPF cyI cyOc1f37 cyOa31c1 S a)) (v : Option Nat) : (X ++ va_pl S.L (wPF cyI cyOc1f37 cyOa31c1 S)).set k (a, .inr (3, [va_rf v, va_rf (S.O_StakeWeirs.f_trial a)])) = X ++ va_pl S.L (wPF cyI cyOc1f37 cyOa31c1 { S with O_StakeWeirs := { S.O_StakeWeirs with f_now := va_up S.O_StakeWeirs.f_now a v } }) := by
  rw [va_pl_set hD hL hk]
  exact congrArg (fun l => X ++ l) (va_pl_congr (wSt_O_StakeWeirs_f_now cyI cyOc1f37 cyOa31c1 S h v))
theorem wSt_O_StakeWeirs_f_trial (cyI : ClassId) (cyOc1f37 : ClassId) (cyOa31c1 : ClassId) (S : wPS) {a : Nat} (h : S.K a = 3) (v : Option Nat) (b : Nat) : va_up (wPF cyI cyOc1f37 cyOa31c1 S) a (.inr (3, [va_rf (S.O_StakeWeirs.f_now a), va_rf v])) b = wPF cyI cyOc1f37 cyOa31c1 { S with O_StakeWeirs := { S.O_StakeWeirs with f_trial := va_up S.O_StakeWeirs.f_trial a v } } b := by by_cases hb : b = a <;> first | (simp only [wPF, va_up_ne _ _ hb]; done) | (simp only [wPF, va_up, if_neg hb]; done) | simp [wPF, va_re, va_up, va_rf, hb, h]
theorem wPu_O_StakeWeirs_f_trial (cyI : ClassId) (cyOc1f37 : ClassId) (cyOa31c1 : ClassId) (X : va_W) (S : wPS) {A : Nat → Prop} {a k : Nat} (hD : va_D A (X ++ va_pl S.L (wPF cyI cyOc1f37 cyOa31c1 S))) (hL : a ∈ S.L) (h : S.K a = 3) (hk : (X ++ va_pl S.L (wPF cyI cyOc1f37 cyOa31c1 S))[k]? = some (a, wPF cyI cyOc1f37 cyOa31c1 S a)) (v : Option Nat) : (X ++ va_pl S.L (wPF cyI cyOc1f37 cyOa31c1 S)).set k (a, .inr (3, [va_rf (S.O_StakeWeirs.f_now a), va_rf v])) = X ++ va_pl S.L (wPF cyI cyOc1f37 cyOa31c1 { S with O_StakeWeirs := { S.O_StakeWeirs with f_trial := va_up S.O_StakeWeirs.f_trial a v } }) := by
  rw [va_pl_set hD hL hk]
  exact congrArg (fun l => X ++ l) (va_pl_congr (wSt_O_StakeWeirs_f_trial cyI cyOc1f37 cyOa31c1 S h v))
theorem wNw_O_StakeWeirs (cyI : ClassId) (cyOc1f37 : ClassId) (cyOa31c1 : ClassId) (S : wPS) (a b : Nat) : va_up (wPF cyI cyOc1f37 cyOa31c1 S) a (.inr (3, [.null, .null])) b = wPF cyI cyOc1f37 cyOa31c1 { S with L := S.L ++ [a], K := va_up S.K a 3, O_StakeWeirs := { f_now := va_up S.O_StakeWeirs.f_now a none, f_trial := va_up S.O_StakeWeirs.f_trial a none } } b := by by_cases hb : b = a <;> first | (simp only [wPF, va_up_ne _ _ hb]; done) | (simp only [wPF, va_up, if_neg hb]; done) | simp [wPF, va_re, va_up, va_rf, hb]
theorem wPn_O_StakeWeirs (cyI : ClassId) (cyOc1f37 : ClassId) (cyOa31c1 : ClassId) (X : va_W) (S : wPS) {a : Nat} (ha : a ∉ S.L) : (X ++ va_pl S.L (wPF cyI cyOc1f37 cyOa31c1 S)) ++ [(a, .inr (3, [.null, .null]))] = X ++ va_pl (S.L ++ [a]) (wPF cyI cyOc1f37 cyOa31c1 { S with L := S.L ++ [a], K := va_up S.K a 3, O_StakeWeirs := { f_now := va_up S.O_StakeWeirs.f_now a none, f_trial := va_up S.O_StakeWeirs.f_trial a none } }) := by
  rw [List.append_assoc, va_pl_push ha]
  exact congrArg (fun l => X ++ l) (va_pl_congr (wNw_O_StakeWeirs cyI cyOc1f37 cyOa31c1 S a))
theorem wAt_O_State (cyI : ClassId) (cyOc1f37 : ClassId) (cyOa31c1 : ClassId) (S : wPS) {a : Nat} (h : S.K a = 4) : wPF cyI cyOc1f37 cyOa31c1 S a = .inr (4, [.int (S.O_State.f_night a), va_rf (S.O_State.f_stakes a), va_rf (S.O_State.f_wattle a), va_rf (S.O_State.f_coins a), va_rf (S.O_State.f_eels a), va_rf (S.O_State.f_open a), va_rf (S.O_State.f_owes a), .int (S.O_State.f_barges a), va_rf (S.O_State.f_wide a), va_rf (S.O_State.f_at a), va_rf (S.O_State.f_broken a), va_rf (S.O_State.f_was a), .int (S.O_State.f_arrived a), .int (S.O_State.f_fines a), .int (S.O_State.f_rents a), va_rf (S.O_State.f_this_0 a)]) := by simp [wPF, h]
theorem wGt_O_State (cyI : ClassId) (cyOc1f37 : ClassId) (cyOa31c1 : ClassId) (X : va_W) (S : wPS) {a : Nat} (hL : a ∈ S.L) (h : S.K a = 4) : ∃ k : Nat, (X ++ va_pl S.L (wPF cyI cyOc1f37 cyOa31c1 S))[k]? = some (a, wPF cyI cyOc1f37 cyOa31c1 S a) ∧ (X ++ va_pl S.L (wPF cyI cyOc1f37 cyOa31c1 S))[k]? = some (a, .inr (4, [.int (S.O_State.f_night a), va_rf (S.O_State.f_stakes a), va_rf (S.O_State.f_wattle a), va_rf (S.O_State.f_coins a), va_rf (S.O_State.f_eels a), va_rf (S.O_State.f_open a), va_rf (S.O_State.f_owes a), .int (S.O_State.f_barges a), va_rf (S.O_State.f_wide a), va_rf (S.O_State.f_at a), va_rf (S.O_State.f_broken a), va_rf (S.O_State.f_was a), .int (S.O_State.f_arrived a), .int (S.O_State.f_fines a), .int (S.O_State.f_rents a), va_rf (S.O_State.f_this_0 a)])) := by
  obtain ⟨k, hk⟩ := va_pl_get (X := X) (f := wPF cyI cyOc1f37 cyOa31c1 S) hL
  exact ⟨k, hk, hk.trans (congrArg (fun e => some (a, e)) (wAt_O_State cyI cyOc1f37 cyOa31c1 S h))⟩
theorem wSt_O_State_f_night (cyI : ClassId) (cyOc1f37 : ClassId) (cyOa31c1 : ClassId) (S : wPS) {a : Nat} (h : S.K a = 4) (v : Int32) (b : Nat) : va_up (wPF cyI cyOc1f37 cyOa31c1 S) a (.inr (4, [.int v, va_rf (S.O_State.f_stakes a), va_rf (S.O_State.f_wattle a), va_rf (S.O_State.f_coins a), va_rf (S.O_State.f_eels a), va_rf (S.O_State.f_open a), va_rf (S.O_State.f_owes a), .int (S.O_State.f_barges a), va_rf (S.O_State.f_wide a), va_rf (S.O_State.f_at a), va_rf (S.O_State.f_broken a), va_rf (S.O_State.f_was a), .int (S.O_State.f_arrived a), .int (S.O_State.f_fines a), .int (S.O_State.f_rents a), va_rf (S.O_State.f_this_0 a)])) b = wPF cyI cyOc1f37 cyOa31c1 { S with O_State := { S.O_State with f_night := va_up S.O_State.f_night a v } } b := by by_cases hb : b = a <;> first | (simp only [wPF, va_up_ne _ _ hb]; done) | (simp only [wPF, va_up, if_neg hb]; done) | simp [wPF, va_re, va_up, va_rf, hb, h]
theorem wPu_O_State_f_night (cyI : ClassId) (cyOc1f37 : ClassId) (cyOa31c1 : ClassId) (X : va_W) (S : wPS) {A : Nat → Prop} {a k : Nat} (hD : va_D A (X ++ va_pl S.L (wPF cyI cyOc1f37 cyOa31c1 S))) (hL : a ∈ S.L) (h : S.K a = 4) (hk : (X ++ va_pl S.L (wPF cyI cyOc1f37 cyOa31c1 S))[k]? = some (a, wPF cyI cyOc1f37 cyOa31c1 S a)) (v : Int32) : (X ++ va_pl S.L (wPF cyI cyOc1f37 cyOa31c1 S)).set k (a, .inr (4, [.int v, va_rf (S.O_State.f_stakes a), va_rf (S.O_State.f_wattle a), va_rf (S.O_State.f_coins a), va_rf (S.O_State.f_eels a), va_rf (S.O_State.f_open a), va_rf (S.O_State.f_owes a), .int (S.O_State.f_barges a), va_rf (S.O_State.f_wide a), va_rf (S.O_State.f_at a), va_rf (S.O_State.f_broken a), va_rf (S.O_State.f_was a), .int (S.O_State.f_arrived a), .int (S.O_State.f_fines a), .int (S.O_State.f_rents a), va_rf (S.O_State.f_this_0 a)])) = X ++ va_pl S.L (wPF cyI cyOc1f37 cyOa31c1 { S with O_State := { S.O_State with f_night := va_up S.O_State.f_night a v } }) := by
  rw [va_pl_set hD hL hk]
  exact congrArg (fun l => X ++ l) (va_pl_congr (wSt_O_State_f_night cyI cyOc1f37 cyOa31c1 S h v))
theorem wSt_O_State_f_stakes (cyI : ClassId) (cyOc1f37 : ClassId) (cyOa31c1 : ClassId) (S : wPS) {a : Nat} (h : S.K a = 4) (v : Option Nat) (b : Nat) : va_up (wPF cyI cyOc1f37 cyOa31c1 S) a (.inr (4, [.int (S.O_State.f_night a), va_rf v, va_rf (S.O_State.f_wattle a), va_rf (S.O_State.f_coins a), va_rf (S.O_State.f_eels a), va_rf (S.O_State.f_open a), va_rf (S.O_State.f_owes a), .int (S.O_State.f_barges a), va_rf (S.O_State.f_wide a), va_rf (S.O_State.f_at a), va_rf (S.O_State.f_broken a), va_rf (S.O_State.f_was a), .int (S.O_State.f_arrived a), .int (S.O_State.f_fines a), .int (S.O_State.f_rents a), va_rf (S.O_State.f_this_0 a)])) b = wPF cyI cyOc1f37 cyOa31c1 { S with O_State := { S.O_State with f_stakes := va_up S.O_State.f_stakes a v } } b := by by_cases hb : b = a <;> first | (simp only [wPF, va_up_ne _ _ hb]; done) | (simp only [wPF, va_up, if_neg hb]; done) | simp [wPF, va_re, va_up, va_rf, hb, h]
theorem wPu_O_State_f_stakes (cyI : ClassId) (cyOc1f37 : ClassId) (cyOa31c1 : ClassId) (X : va_W) (S : wPS) {A : Nat → Prop} {a k : Nat} (hD : va_D A (X ++ va_pl S.L (wPF cyI cyOc1f37 cyOa31c1 S))) (hL : a ∈ S.L) (h : S.K a = 4) (hk : (X ++ va_pl S.L (wPF cyI cyOc1f37 cyOa31c1 S))[k]? = some (a, wPF cyI cyOc1f37 cyOa31c1 S a)) (v : Option Nat) : (X ++ va_pl S.L (wPF cyI cyOc1f37 cyOa31c1 S)).set k (a, .inr (4, [.int (S.O_State.f_night a), va_rf v, va_rf (S.O_State.f_wattle a), va_rf (S.O_State.f_coins a), va_rf (S.O_State.f_eels a), va_rf (S.O_State.f_open a), va_rf (S.O_State.f_owes a), .int (S.O_State.f_barges a), va_rf (S.O_State.f_wide a), va_rf (S.O_State.f_at a), va_rf (S.O_State.f_broken a), va_rf (S.O_State.f_was a), .int (S.O_State.f_arrived a), .int (S.O_State.f_fines a), .int (S.O_State.f_rents a), va_rf (S.O_State.f_this_0 a)])) = X ++ va_pl S.L (wPF cyI cyOc1f37 cyOa31c1 { S with O_State := { S.O_State with f_stakes := va_up S.O_State.f_stakes a v } }) := by
  rw [va_pl_set hD hL hk]
  exact congrArg (fun l => X ++ l) (va_pl_congr (wSt_O_State_f_stakes cyI cyOc1f37 cyOa31c1 S h v))
theorem wSt_O_State_f_wattle (cyI : ClassId) (cyOc1f37 : ClassId) (cyOa31c1 : ClassId) (S : wPS) {a : Nat} (h : S.K a = 4) (v : Option Nat) (b : Nat) : va_up (wPF cyI cyOc1f37 cyOa31c1 S) a (.inr (4, [.int (S.O_State.f_night a), va_rf (S.O_State.f_stakes a), va_rf v, va_rf (S.O_State.f_coins a), va_rf (S.O_State.f_eels a), va_rf (S.O_State.f_open a), va_rf (S.O_State.f_owes a), .int (S.O_State.f_barges a), va_rf (S.O_State.f_wide a), va_rf (S.O_State.f_at a), va_rf (S.O_State.f_broken a), va_rf (S.O_State.f_was a), .int (S.O_State.f_arrived a), .int (S.O_State.f_fines a), .int (S.O_State.f_rents a), va_rf (S.O_State.f_this_0 a)])) b = wPF cyI cyOc1f37 cyOa31c1 { S with O_State := { S.O_State with f_wattle := va_up S.O_State.f_wattle a v } } b := by by_cases hb : b = a <;> first | (simp only [wPF, va_up_ne _ _ hb]; done) | (simp only [wPF, va_up, if_neg hb]; done) | simp [wPF, va_re, va_up, va_rf, hb, h]
theorem wPu_O_State_f_wattle (cyI : ClassId) (cyOc1f37 : ClassId) (cyOa31c1 : ClassId) (X : va_W) (S : wPS) {A : Nat → Prop} {a k : Nat} (hD : va_D A (X ++ va_pl S.L (wPF cyI cyOc1f37 cyOa31c1 S))) (hL : a ∈ S.L) (h : S.K a = 4) (hk : (X ++ va_pl S.L (wPF cyI cyOc1f37 cyOa31c1 S))[k]? = some (a, wPF cyI cyOc1f37 cyOa31c1 S a)) (v : Option Nat) : (X ++ va_pl S.L (wPF cyI cyOc1f37 cyOa31c1 S)).set k (a, .inr (4, [.int (S.O_State.f_night a), va_rf (S.O_State.f_stakes a), va_rf v, va_rf (S.O_State.f_coins a), va_rf (S.O_State.f_eels a), va_rf (S.O_State.f_open a), va_rf (S.O_State.f_owes a), .int (S.O_State.f_barges a), va_rf (S.O_State.f_wide a), va_rf (S.O_State.f_at a), va_rf (S.O_State.f_broken a), va_rf (S.O_State.f_was a), .int (S.O_State.f_arrived a), .int (S.O_State.f_fines a), .int (S.O_State.f_rents a), va_rf (S.O_State.f_this_0 a)])) = X ++ va_pl S.L (wPF cyI cyOc1f37 cyOa31c1 { S with O_State := { S.O_State with f_wattle := va_up S.O_State.f_wattle a v } }) := by
  rw [va_pl_set hD hL hk]
  exact congrArg (fun l => X ++ l) (va_pl_congr (wSt_O_State_f_wattle cyI cyOc1f37 cyOa31c1 S h v))
theorem wSt_O_State_f_coins (cyI : ClassId) (cyOc1f37 : ClassId) (cyOa31c1 : ClassId) (S : wPS) {a : Nat} (h : S.K a = 4) (v : Option Nat) (b : Nat) : va_up (wPF cyI cyOc1f37 cyOa31c1 S) a (.inr (4, [.int (S.O_State.f_night a), va_rf (S.O_State.f_stakes a), va_rf (S.O_State.f_wattle a), va_rf v, va_rf (S.O_State.f_eels a), va_rf (S.O_State.f_open a), va_rf (S.O_State.f_owes a), .int (S.O_State.f_barges a), va_rf (S.O_State.f_wide a), va_rf (S.O_State.f_at a), va_rf (S.O_State.f_broken a), va_rf (S.O_State.f_was a), .int (S.O_State.f_arrived a), .int (S.O_State.f_fines a), .int (S.O_State.f_rents a), va_rf (S.O_State.f_this_0 a)])) b = wPF cyI cyOc1f37 cyOa31c1 { S with O_State := { S.O_State with f_coins := va_up S.O_State.f_coins a v } } b := by by_cases hb : b = a <;> first | (simp only [wPF, va_up_ne _ _ hb]; done) | (simp only [wPF, va_up, if_neg hb]; done) | simp [wPF, va_re, va_up, va_rf, hb, h]
theorem wPu_O_State_f_coins (cyI : ClassId) (cyOc1f37 : ClassId) (cyOa31c1 : ClassId) (X : va_W) (S : wPS) {A : Nat → Prop} {a k : Nat} (hD : va_D A (X ++ va_pl S.L (wPF cyI cyOc1f37 cyOa31c1 S))) (hL : a ∈ S.L) (h : S.K a = 4) (hk : (X ++ va_pl S.L (wPF cyI cyOc1f37 cyOa31c1 S))[k]? = some (a, wPF cyI cyOc1f37 cyOa31c1 S a)) (v : Option Nat) : (X ++ va_pl S.L (wPF cyI cyOc1f37 cyOa31c1 S)).set k (a, .inr (4, [.int (S.O_State.f_night a), va_rf (S.O_State.f_stakes a), va_rf (S.O_State.f_wattle a), va_rf v, va_rf (S.O_State.f_eels a), va_rf (S.O_State.f_open a), va_rf (S.O_State.f_owes a), .int (S.O_State.f_barges a), va_rf (S.O_State.f_wide a), va_rf (S.O_State.f_at a), va_rf (S.O_State.f_broken a), va_rf (S.O_State.f_was a), .int (S.O_State.f_arrived a), .int (S.O_State.f_fines a), .int (S.O_State.f_rents a), va_rf (S.O_State.f_this_0 a)])) = X ++ va_pl S.L (wPF cyI cyOc1f37 cyOa31c1 { S with O_State := { S.O_State with f_coins := va_up S.O_State.f_coins a v } }) := by
  rw [va_pl_set hD hL hk]
  exact congrArg (fun l => X ++ l) (va_pl_congr (wSt_O_State_f_coins cyI cyOc1f37 cyOa31c1 S h v))
theorem wSt_O_State_f_eels (cyI : ClassId) (cyOc1f37 : ClassId) (cyOa31c1 : ClassId) (S : wPS) {a : Nat} (h : S.K a = 4) (v : Option Nat) (b : Nat) : va_up (wPF cyI cyOc1f37 cyOa31c1 S) a (.inr (4, [.int (S.O_State.f_night a), va_rf (S.O_State.f_stakes a), va_rf (S.O_State.f_wattle a), va_rf (S.O_State.f_coins a), va_rf v, va_rf (S.O_State.f_open a), va_rf (S.O_State.f_owes a), .int (S.O_State.f_barges a), va_rf (S.O_State.f_wide a), va_rf (S.O_State.f_at a), va_rf (S.O_State.f_broken a), va_rf (S.O_State.f_was a), .int (S.O_State.f_arrived a), .int (S.O_State.f_fines a), .int (S.O_State.f_rents a), va_rf (S.O_State.f_this_0 a)])) b = wPF cyI cyOc1f37 cyOa31c1 { S with O_State := { S.O_State with f_eels := va_up S.O_State.f_eels a v } } b := by by_cases hb : b = a <;> first | (simp only [wPF, va_up_ne _ _ hb]; done) | (simp only [wPF, va_up, if_neg hb]; done) | simp [wPF, va_re, va_up, va_rf, hb, h]
theorem wPu_O_State_f_eels (cyI : ClassId) (cyOc1f37 : ClassId) (cyOa31c1 : ClassId) (X : va_W) (S : wPS) {A : Nat → Prop} {a k : Nat} (hD : va_D A (X ++ va_pl S.L (wPF cyI cyOc1f37 cyOa31c1 S))) (hL : a ∈ S.L) (h : S.K a = 4) (hk : (X ++ va_pl S.L (wPF cyI cyOc1f37 cyOa31c1 S))[k]? = some (a, wPF cyI cyOc1f37 cyOa31c1 S a)) (v : Option Nat) : (X ++ va_pl S.L (wPF cyI cyOc1f37 cyOa31c1 S)).set k (a, .inr (4, [.int (S.O_State.f_night a), va_rf (S.O_State.f_stakes a), va_rf (S.O_State.f_wattle a), va_rf (S.O_State.f_coins a), va_rf v, va_rf (S.O_State.f_open a), va_rf (S.O_State.f_owes a), .int (S.O_State.f_barges a), va_rf (S.O_State.f_wide a), va_rf (S.O_State.f_at a), va_rf (S.O_State.f_broken a), va_rf (S.O_State.f_was a), .int (S.O_State.f_arrived a), .int (S.O_State.f_fines a), .int (S.O_State.f_rents a), va_rf (S.O_State.f_this_0 a)])) = X ++ va_pl S.L (wPF cyI cyOc1f37 cyOa31c1 { S with O_State := { S.O_State with f_eels := va_up S.O_State.f_eels a v } }) := by
  rw [va_pl_set hD hL hk]
  exact congrArg (fun l => X ++ l) (va_pl_congr (wSt_O_State_f_eels cyI cyOc1f37 cyOa31c1 S h v))
theorem wSt_O_State_f_open (cyI : ClassId) (cyOc1f37 : ClassId) (cyOa31c1 : ClassId) (S : wPS) {a : Nat} (h : S.K a = 4) (v : Option Nat) (b : Nat) : va_up (wPF cyI cyOc1f37 cyOa31c1 S) a (.inr (4, [.int (S.O_State.f_night a), va_rf (S.O_State.f_stakes a), va_rf (S.O_State.f_wattle a), va_rf (S.O_State.f_coins a), va_rf (S.O_State.f_eels a), va_rf v, va_rf (S.O_State.f_owes a), .int (S.O_State.f_barges a), va_rf (S.O_State.f_wide a), va_rf (S.O_State.f_at a), va_rf (S.O_State.f_broken a), va_rf (S.O_State.f_was a), .int (S.O_State.f_arrived a), .int (S.O_State.f_fines a), .int (S.O_State.f_rents a), va_rf (S.O_State.f_this_0 a)])) b = wPF cyI cyOc1f37 cyOa31c1 { S with O_State := { S.O_State with f_open := va_up S.O_State.f_open a v } } b := by by_cases hb : b = a <;> first | (simp only [wPF, va_up_ne _ _ hb]; done) | (simp only [wPF, va_up, if_neg hb]; done) | simp [wPF, va_re, va_up, va_rf, hb, h]
theorem wPu_O_State_f_open (cyI : ClassId) (cyOc1f37 : ClassId) (cyOa31c1 : ClassId) (X : va_W) (S : wPS) {A : Nat → Prop} {a k : Nat} (hD : va_D A (X ++ va_pl S.L (wPF cyI cyOc1f37 cyOa31c1 S))) (hL : a ∈ S.L) (h : S.K a = 4) (hk : (X ++ va_pl S.L (wPF cyI cyOc1f37 cyOa31c1 S))[k]? = some (a, wPF cyI cyOc1f37 cyOa31c1 S a)) (v : Option Nat) : (X ++ va_pl S.L (wPF cyI cyOc1f37 cyOa31c1 S)).set k (a, .inr (4, [.int (S.O_State.f_night a), va_rf (S.O_State.f_stakes a), va_rf (S.O_State.f_wattle a), va_rf (S.O_State.f_coins a), va_rf (S.O_State.f_eels a), va_rf v, va_rf (S.O_State.f_owes a), .int (S.O_State.f_barges a), va_rf (S.O_State.f_wide a), va_rf (S.O_State.f_at a), va_rf (S.O_State.f_broken a), va_rf (S.O_State.f_was a), .int (S.O_State.f_arrived a), .int (S.O_State.f_fines a), .int (S.O_State.f_rents a), va_rf (S.O_State.f_this_0 a)])) = X ++ va_pl S.L (wPF cyI cyOc1f37 cyOa31c1 { S with O_State := { S.O_State with f_open := va_up S.O_State.f_open a v } }) := by
  rw [va_pl_set hD hL hk]
  exact congrArg (fun l => X ++ l) (va_pl_congr (wSt_O_State_f_open cyI cyOc1f37 cyOa31c1 S h v))
theorem wSt_O_State_f_owes (cyI : ClassId) (cyOc1f37 : ClassId) (cyOa31c1 : ClassId) (S : wPS) {a : Nat} (h : S.K a = 4) (v : Option Nat) (b : Nat) : va_up (wPF cyI cyOc1f37 cyOa31c1 S) a (.inr (4, [.int (S.O_State.f_night a), va_rf (S.O_State.f_stakes a), va_rf (S.O_State.f_wattle a), va_rf (S.O_State.f_coins a), va_rf (S.O_State.f_eels a), va_rf (S.O_State.f_open a), va_rf v, .int (S.O_State.f_barges a), va_rf (S.O_State.f_wide a), va_rf (S.O_State.f_at a), va_rf (S.O_State.f_broken a), va_rf (S.O_State.f_was a), .int (S.O_State.f_arrived a), .int (S.O_State.f_fines a), .int (S.O_State.f_rents a), va_rf (S.O_State.f_this_0 a)])) b = wPF cyI cyOc1f37 cyOa31c1 { S with O_State := { S.O_State with f_owes := va_up S.O_State.f_owes a v } } b := by by_cases hb : b = a <;> first | (simp only [wPF, va_up_ne _ _ hb]; done) | (simp only [wPF, va_up, if_neg hb]; done) | simp [wPF, va_re, va_up, va_rf, hb, h]
theorem wPu_O_State_f_owes (cyI : ClassId) (cyOc1f37 : ClassId) (cyOa31c1 : ClassId) (X : va_W) (S : wPS) {A : Nat → Prop} {a k : Nat} (hD : va_D A (X ++ va_pl S.L (wPF cyI cyOc1f37 cyOa31c1 S))) (hL : a ∈ S.L) (h : S.K a = 4) (hk : (X ++ va_pl S.L (wPF cyI cyOc1f37 cyOa31c1 S))[k]? = some (a, wPF cyI cyOc1f37 cyOa31c1 S a)) (v : Option Nat) : (X ++ va_pl S.L (wPF cyI cyOc1f37 cyOa31c1 S)).set k (a, .inr (4, [.int (S.O_State.f_night a), va_rf (S.O_State.f_stakes a), va_rf (S.O_State.f_wattle a), va_rf (S.O_State.f_coins a), va_rf (S.O_State.f_eels a), va_rf (S.O_State.f_open a), va_rf v, .int (S.O_State.f_barges a), va_rf (S.O_State.f_wide a), va_rf (S.O_State.f_at a), va_rf (S.O_State.f_broken a), va_rf (S.O_State.f_was a), .int (S.O_State.f_arrived a), .int (S.O_State.f_fines a), .int (S.O_State.f_rents a), va_rf (S.O_State.f_this_0 a)])) = X ++ va_pl S.L (wPF cyI cyOc1f37 cyOa31c1 { S with O_State := { S.O_State with f_owes := va_up S.O_State.f_owes a v } }) := by
  rw [va_pl_set hD hL hk]
  exact congrArg (fun l => X ++ l) (va_pl_congr (wSt_O_State_f_owes cyI cyOc1f37 cyOa31c1 S h v))
theorem wSt_O_State_f_barges (cyI : ClassId) (cyOc1f37 : ClassId) (cyOa31c1 : ClassId) (S : wPS) {a : Nat} (h : S.K a = 4) (v : Int32) (b : Nat) : va_up (wPF cyI cyOc1f37 cyOa31c1 S) a (.inr (4, [.int (S.O_State.f_night a), va_rf (S.O_State.f_stakes a), va_rf (S.O_State.f_wattle a), va_rf (S.O_State.f_coins a), va_rf (S.O_State.f_eels a), va_rf (S.O_State.f_open a), va_rf (S.O_State.f_owes a), .int v, va_rf (S.O_State.f_wide a), va_rf (S.O_State.f_at a), va_rf (S.O_State.f_broken a), va_rf (S.O_State.f_was a), .int (S.O_State.f_arrived a), .int (S.O_State.f_fines a), .int (S.O_State.f_rents a), va_rf (S.O_State.f_this_0 a)])) b = wPF cyI cyOc1f37 cyOa31c1 { S with O_State := { S.O_State with f_barges := va_up S.O_State.f_barges a v } } b := by by_cases hb : b = a <;> first | (simp only [wPF, va_up_ne _ _ hb]; done) | (simp only [wPF, va_up, if_neg hb]; done) | simp [wPF, va_re, va_up, va_rf, hb, h]
theorem wPu_O_State_f_barges (cyI : ClassId) (cyOc1f37 : ClassId) (cyOa31c1 : ClassId) (X : va_W) (S : wPS) {A : Nat → Prop} {a k : Nat} (hD : va_D A (X ++ va_pl S.L (wPF cyI cyOc1f37 cyOa31c1 S))) (hL : a ∈ S.L) (h : S.K a = 4) (hk : (X ++ va_pl S.L (wPF cyI cyOc1f37 cyOa31c1 S))[k]? = some (a, wPF cyI cyOc1f37 cyOa31c1 S a)) (v : Int32) : (X ++ va_pl S.L (wPF cyI cyOc1f37 cyOa31c1 S)).set k (a, .inr (4, [.int (S.O_State.f_night a), va_rf (S.O_State.f_stakes a), va_rf (S.O_State.f_wattle a), va_rf (S.O_State.f_coins a), va_rf (S.O_State.f_eels a), va_rf (S.O_State.f_open a), va_rf (S.O_State.f_owes a), .int v, va_rf (S.O_State.f_wide a), va_rf (S.O_State.f_at a), va_rf (S.O_State.f_broken a), va_rf (S.O_State.f_was a), .int (S.O_State.f_arrived a), .int (S.O_State.f_fines a), .int (S.O_State.f_rents a), va_rf (S.O_State.f_this_0 a)])) = X ++ va_pl S.L (wPF cyI cyOc1f37 cyOa31c1 { S with O_State := { S.O_State with f_barges := va_up S.O_State.f_barges a v } }) := by
  rw [va_pl_set hD hL hk]
  exact congrArg (fun l => X ++ l) (va_pl_congr (wSt_O_State_f_barges cyI cyOc1f37 cyOa31c1 S h v))
theorem wSt_O_State_f_wide (cyI : ClassId) (cyOc1f37 : ClassId) (cyOa31c1 : ClassId) (S : wPS) {a : Nat} (h : S.K a = 4) (v : Option Nat) (b : Nat) : va_up (wPF cyI cyOc1f37 cyOa31c1 S) a (.inr (4, [.int (S.O_State.f_night a), va_rf (S.O_State.f_stakes a), va_rf (S.O_State.f_wattle a), va_rf (S.O_State.f_coins a), va_rf (S.O_State.f_eels a), va_rf (S.O_State.f_open a), va_rf (S.O_State.f_owes a), .int (S.O_State.f_barges a), va_rf v, va_rf (S.O_State.f_at a), va_rf (S.O_State.f_broken a), va_rf (S.O_State.f_was a), .int (S.O_State.f_arrived a), .int (S.O_State.f_fines a), .int (S.O_State.f_rents a), va_rf (S.O_State.f_this_0 a)])) b = wPF cyI cyOc1f37 cyOa31c1 { S with O_State := { S.O_State with f_wide := va_up S.O_State.f_wide a v } } b := by by_cases hb : b = a <;> first | (simp only [wPF, va_up_ne _ _ hb]; done) | (simp only [wPF, va_up, if_neg hb]; done) | simp [wPF, va_re, va_up, va_rf, hb, h]
theorem wPu_O_State_f_wide (cyI : ClassId) (cyOc1f37 : ClassId) (cyOa31c1 : ClassId) (X : va_W) (S : wPS) {A : Nat → Prop} {a k : Nat} (hD : va_D A (X ++ va_pl S.L (wPF cyI cyOc1f37 cyOa31c1 S))) (hL : a ∈ S.L) (h : S.K a = 4) (hk : (X ++ va_pl S.L (wPF cyI cyOc1f37 cyOa31c1 S))[k]? = some (a, wPF cyI cyOc1f37 cyOa31c1 S a)) (v : Option Nat) : (X ++ va_pl S.L (wPF cyI cyOc1f37 cyOa31c1 S)).set k (a, .inr (4, [.int (S.O_State.f_night a), va_rf (S.O_State.f_stakes a), va_rf (S.O_State.f_wattle a), va_rf (S.O_State.f_coins a), va_rf (S.O_State.f_eels a), va_rf (S.O_State.f_open a), va_rf (S.O_State.f_owes a), .int (S.O_State.f_barges a), va_rf v, va_rf (S.O_State.f_at a), va_rf (S.O_State.f_broken a), va_rf (S.O_State.f_was a), .int (S.O_State.f_arrived a), .int (S.O_State.f_fines a), .int (S.O_State.f_rents a), va_rf (S.O_State.f_this_0 a)])) = X ++ va_pl S.L (wPF cyI cyOc1f37 cyOa31c1 { S with O_State := { S.O_State with f_wide := va_up S.O_State.f_wide a v } }) := by
  rw [va_pl_set hD hL hk]
  exact congrArg (fun l => X ++ l) (va_pl_congr (wSt_O_State_f_wide cyI cyOc1f37 cyOa31c1 S h v))
theorem wSt_O_State_f_at (cyI : ClassId) (cyOc1f37 : ClassId) (cyOa31c1 : ClassId) (S : wPS) {a : Nat} (h : S.K a = 4) (v : Option Nat) (b : Nat) : va_up (wPF cyI cyOc1f37 cyOa31c1 S) a (.inr (4, [.int (S.O_State.f_night a), va_rf (S.O_State.f_stakes a), va_rf (S.O_State.f_wattle a), va_rf (S.O_State.f_coins a), va_rf (S.O_State.f_eels a), va_rf (S.O_State.f_open a), va_rf (S.O_State.f_owes a), .int (S.O_State.f_barges a), va_rf (S.O_State.f_wide a), va_rf v, va_rf (S.O_State.f_broken a), va_rf (S.O_State.f_was a), .int (S.O_State.f_arrived a), .int (S.O_State.f_fines a), .int (S.O_State.f_rents a), va_rf (S.O_State.f_this_0 a)])) b = wPF cyI cyOc1f37 cyOa31c1 { S with O_State := { S.O_State with f_at := va_up S.O_State.f_at a v } } b := by by_cases hb : b = a <;> first | (simp only [wPF, va_up_ne _ _ hb]; done) | (simp only [wPF, va_up, if_neg hb]; done) | simp [wPF, va_re, va_up, va_rf, hb, h]
theorem wPu_O_State_f_at (cyI : ClassId) (cyOc1f37 : ClassId) (cyOa31c1 : ClassId) (X : va_W) (S : wPS) {A : Nat → Prop} {a k : Nat} (hD : va_D A (X ++ va_pl S.L (wPF cyI cyOc1f37 cyOa31c1 S))) (hL : a ∈ S.L) (h : S.K a = 4) (hk : (X ++ va_pl S.L (wPF cyI cyOc1f37 cyOa31c1 S))[k]? = some (a, wPF cyI cyOc1f37 cyOa31c1 S a)) (v : Option Nat) : (X ++ va_pl S.L (wPF cyI cyOc1f37 cyOa31c1 S)).set k (a, .inr (4, [.int (S.O_State.f_night a), va_rf (S.O_State.f_stakes a), va_rf (S.O_State.f_wattle a), va_rf (S.O_State.f_coins a), va_rf (S.O_State.f_eels a), va_rf (S.O_State.f_open a), va_rf (S.O_State.f_owes a), .int (S.O_State.f_barges a), va_rf (S.O_State.f_wide a), va_rf v, va_rf (S.O_State.f_broken a), va_rf (S.O_State.f_was a), .int (S.O_State.f_arrived a), .int (S.O_State.f_fines a), .int (S.O_State.f_rents a), va_rf (S.O_State.f_this_0 a)])) = X ++ va_pl S.L (wPF cyI cyOc1f37 cyOa31c1 { S with O_State := { S.O_State with f_at := va_up S.O_State.f_at a v } }) := by
  rw [va_pl_set hD hL hk]
  exact congrArg (fun l => X ++ l) (va_pl_congr (wSt_O_State_f_at cyI cyOc1f37 cyOa31c1 S h v))
theorem wSt_O_State_f_broken (cyI : ClassId) (cyOc1f37 : ClassId) (cyOa31c1 : ClassId) (S : wPS) {a : Nat} (h : S.K a = 4) (v : Option Nat) (b : Nat) : va_up (wPF cyI cyOc1f37 cyOa31c1 S) a (.inr (4, [.int (S.O_State.f_night a), va_rf (S.O_State.f_stakes a), va_rf (S.O_State.f_wattle a), va_rf (S.O_State.f_coins a), va_rf (S.O_State.f_eels a), va_rf (S.O_State.f_open a), va_rf (S.O_State.f_owes a), .int (S.O_State.f_barges a), va_rf (S.O_State.f_wide a), va_rf (S.O_State.f_at a), va_rf v, va_rf (S.O_State.f_was a), .int (S.O_State.f_arrived a), .int (S.O_State.f_fines a), .int (S.O_State.f_rents a), va_rf (S.O_State.f_this_0 a)])) b = wPF cyI cyOc1f37 cyOa31c1 { S with O_State := { S.O_State with f_broken := va_up S.O_State.f_broken a v } } b := by by_cases hb : b = a <;> first | (simp only [wPF, va_up_ne _ _ hb]; done) | (simp only [wPF, va_up, if_neg hb]; done) | simp [wPF, va_re, va_up, va_rf, hb, h]
theorem wPu_O_State_f_broken (cyI : ClassId) (cyOc1f37 : ClassId) (cyOa31c1 : ClassId) (X : va_W) (S : wPS) {A : Nat → Prop} {a k : Nat} (hD : va_D A (X ++ va_pl S.L (wPF cyI cyOc1f37 cyOa31c1 S))) (hL : a ∈ S.L) (h : S.K a = 4) (hk : (X ++ va_pl S.L (wPF cyI cyOc1f37 cyOa31c1 S))[k]? = some (a, wPF cyI cyOc1f37 cyOa31c1 S a)) (v : Option Nat) : (X ++ va_pl S.L (wPF cyI cyOc1f37 cyOa31c1 S)).set k (a, .inr (4, [.int (S.O_State.f_night a), va_rf (S.O_State.f_stakes a), va_rf (S.O_State.f_wattle a), va_rf (S.O_State.f_coins a), va_rf (S.O_State.f_eels a), va_rf (S.O_State.f_open a), va_rf (S.O_State.f_owes a), .int (S.O_State.f_barges a), va_rf (S.O_State.f_wide a), va_rf (S.O_State.f_at a), va_rf v, va_rf (S.O_State.f_was a), .int (S.O_State.f_arrived a), .int (S.O_State.f_fines a), .int (S.O_State.f_rents a), va_rf (S.O_State.f_this_0 a)])) = X ++ va_pl S.L (wPF cyI cyOc1f37 cyOa31c1 { S with O_State := { S.O_State with f_broken := va_up S.O_State.f_broken a v } }) := by
  rw [va_pl_set hD hL hk]
  exact congrArg (fun l => X ++ l) (va_pl_congr (wSt_O_State_f_broken cyI cyOc1f37 cyOa31c1 S h v))
theorem wSt_O_State_f_was (cyI : ClassId) (cyOc1f37 : ClassId) (cyOa31c1 : ClassId) (S : wPS) {a : Nat} (h : S.K a = 4) (v : Option Nat) (b : Nat) : va_up (wPF cyI cyOc1f37 cyOa31c1 S) a (.inr (4, [.int (S.O_State.f_night a), va_rf (S.O_State.f_stakes a), va_rf (S.O_State.f_wattle a), va_rf (S.O_State.f_coins a), va_rf (S.O_State.f_eels a), va_rf (S.O_State.f_open a), va_rf (S.O_State.f_owes a), .int (S.O_State.f_barges a), va_rf (S.O_State.f_wide a), va_rf (S.O_State.f_at a), va_rf (S.O_State.f_broken a), va_rf v, .int (S.O_State.f_arrived a), .int (S.O_State.f_fines a), .int (S.O_State.f_rents a), va_rf (S.O_State.f_this_0 a)])) b = wPF cyI cyOc1f37 cyOa31c1 { S with O_State := { S.O_State with f_was := va_up S.O_State.f_was a v } } b := by by_cases hb : b = a <;> first | (simp only [wPF, va_up_ne _ _ hb]; done) | (simp only [wPF, va_up, if_neg hb]; done) | simp [wPF, va_re, va_up, va_rf, hb, h]
theorem wPu_O_State_f_was (cyI : ClassId) (cyOc1f37 : ClassId) (cyOa31c1 : ClassId) (X : va_W) (S : wPS) {A : Nat → Prop} {a k : Nat} (hD : va_D A (X ++ va_pl S.L (wPF cyI cyOc1f37 cyOa31c1 S))) (hL : a ∈ S.L) (h : S.K a = 4) (hk : (X ++ va_pl S.L (wPF cyI cyOc1f37 cyOa31c1 S))[k]? = some (a, wPF cyI cyOc1f37 cyOa31c1 S a)) (v : Option Nat) : (X ++ va_pl S.L (wPF cyI cyOc1f37 cyOa31c1 S)).set k (a, .inr (4, [.int (S.O_State.f_night a), va_rf (S.O_State.f_stakes a), va_rf (S.O_State.f_wattle a), va_rf (S.O_State.f_coins a), va_rf (S.O_State.f_eels a), va_rf (S.O_State.f_open a), va_rf (S.O_State.f_owes a), .int (S.O_State.f_barges a), va_rf (S.O_State.f_wide a), va_rf (S.O_State.f_at a), va_rf (S.O_State.f_broken a), va_rf v, .int (S.O_State.f_arrived a), .int (S.O_State.f_fines a), .int (S.O_State.f_rents a), va_rf (S.O_State.f_this_0 a)])) = X ++ va_pl S.L (wPF cyI cyOc1f37 cyOa31c1 { S with O_State := { S.O_State with f_was := va_up S.O_State.f_was a v } }) := by
  rw [va_pl_set hD hL hk]
  exact congrArg (fun l => X ++ l) (va_pl_congr (wSt_O_State_f_was cyI cyOc1f37 cyOa31c1 S h v))
theorem wSt_O_State_f_arrived (cyI : ClassId) (cyOc1f37 : ClassId) (cyOa31c1 : ClassId) (S : wPS) {a : Nat} (h : S.K a = 4) (v : Int32) (b : Nat) : va_up (wPF cyI cyOc1f37 cyOa31c1 S) a (.inr (4, [.int (S.O_State.f_night a), va_rf (S.O_State.f_stakes a), va_rf (S.O_State.f_wattle a), va_rf (S.O_State.f_coins a), va_rf (S.O_State.f_eels a), va_rf (S.O_State.f_open a), va_rf (S.O_State.f_owes a), .int (S.O_State.f_barges a), va_rf (S.O_State.f_wide a), va_rf (S.O_State.f_at a), va_rf (S.O_State.f_broken a), va_rf (S.O_State.f_was a), .int v, .int (S.O_State.f_fines a), .int (S.O_State.f_rents a), va_rf (S.O_State.f_this_0 a)])) b = wPF cyI cyOc1f37 cyOa31c1 { S with O_State := { S.O_State with f_arrived := va_up S.O_State.f_arrived a v } } b := by by_cases hb : b = a <;> first | (simp only [wPF, va_up_ne _ _ hb]; done) | (simp only [wPF, va_up, if_neg hb]; done) | simp [wPF, va_re, va_up, va_rf, hb, h]
theorem wPu_O_State_f_arrived (cyI : ClassId) (cyOc1f37 : ClassId) (cyOa31c1 : ClassId) (X : va_W) (S : wPS) {A : Nat → Prop} {a k : Nat} (hD : va_D A (X ++ va_pl S.L (wPF cyI cyOc1f37 cyOa31c1 S))) (hL : a ∈ S.L) (h : S.K a = 4) (hk : (X ++ va_pl S.L (wPF cyI cyOc1f37 cyOa31c1 S))[k]? = some (a, wPF cyI cyOc1f37 cyOa31c1 S a)) (v : Int32) : (X ++ va_pl S.L (wPF cyI cyOc1f37 cyOa31c1 S)).set k (a, .inr (4, [.int (S.O_State.f_night a), va_rf (S.O_State.f_stakes a), va_rf (S.O_State.f_wattle a), va_rf (S.O_State.f_coins a), va_rf (S.O_State.f_eels a), va_rf (S.O_State.f_open a), va_rf (S.O_State.f_owes a), .int (S.O_State.f_barges a), va_rf (S.O_State.f_wide a), va_rf (S.O_State.f_at a), va_rf (S.O_State.f_broken a), va_rf (S.O_State.f_was a), .int v, .int (S.O_State.f_fines a), .int (S.O_State.f_rents a), va_rf (S.O_State.f_this_0 a)])) = X ++ va_pl S.L (wPF cyI cyOc1f37 cyOa31c1 { S with O_State := { S.O_State with f_arrived := va_up S.O_State.f_arrived a v } }) := by
  rw [va_pl_set hD hL hk]
  exact congrArg (fun l => X ++ l) (va_pl_congr (wSt_O_State_f_arrived cyI cyOc1f37 cyOa31c1 S h v))
theorem wSt_O_State_f_fines (cyI : ClassId) (cyOc1f37 : ClassId) (cyOa31c1 : ClassId) (S : wPS) {a : Nat} (h : S.K a = 4) (v : Int32) (b : Nat) : va_up (wPF cyI cyOc1f37 cyOa31c1 S) a (.inr (4, [.int (S.O_State.f_night a), va_rf (S.O_State.f_stakes a), va_rf (S.O_State.f_wattle a), va_rf (S.O_State.f_coins a), va_rf (S.O_State.f_eels a), va_rf (S.O_State.f_open a), va_rf (S.O_State.f_owes a), .int (S.O_State.f_barges a), va_rf (S.O_State.f_wide a), va_rf (S.O_State.f_at a), va_rf (S.O_State.f_broken a), va_rf (S.O_State.f_was a), .int (S.O_State.f_arrived a), .int v, .int (S.O_State.f_rents a), va_rf (S.O_State.f_this_0 a)])) b = wPF cyI cyOc1f37 cyOa31c1 { S with O_State := { S.O_State with f_fines := va_up S.O_State.f_fines a v } } b := by by_cases hb : b = a <;> first | (simp only [wPF, va_up_ne _ _ hb]; done) | (simp only [wPF, va_up, if_neg hb]; done) | simp [wPF, va_re, va_up, va_rf, hb, h]
theorem wPu_O_State_f_fines (cyI : ClassId) (cyOc1f37 : ClassId) (cyOa31c1 : ClassId) (X : va_W) (S : wPS) {A : Nat → Prop} {a k : Nat} (hD : va_D A (X ++ va_pl S.L (wPF cyI cyOc1f37 cyOa31c1 S))) (hL : a ∈ S.L) (h : S.K a = 4) (hk : (X ++ va_pl S.L (wPF cyI cyOc1f37 cyOa31c1 S))[k]? = some (a, wPF cyI cyOc1f37 cyOa31c1 S a)) (v : Int32) : (X ++ va_pl S.L (wPF cyI cyOc1f37 cyOa31c1 S)).set k (a, .inr (4, [.int (S.O_State.f_night a), va_rf (S.O_State.f_stakes a), va_rf (S.O_State.f_wattle a), va_rf (S.O_State.f_coins a), va_rf (S.O_State.f_eels a), va_rf (S.O_State.f_open a), va_rf (S.O_State.f_owes a), .int (S.O_State.f_barges a), va_rf (S.O_State.f_wide a), va_rf (S.O_State.f_at a), va_rf (S.O_State.f_broken a), va_rf (S.O_State.f_was a), .int (S.O_State.f_arrived a), .int v, .int (S.O_State.f_rents a), va_rf (S.O_State.f_this_0 a)])) = X ++ va_pl S.L (wPF cyI cyOc1f37 cyOa31c1 { S with O_State := { S.O_State with f_fines := va_up S.O_State.f_fines a v } }) := by
  rw [va_pl_set hD hL hk]
  exact congrArg (fun l => X ++ l) (va_pl_congr (wSt_O_State_f_fines cyI cyOc1f37 cyOa31c1 S h v))
theorem wSt_O_State_f_rents (cyI : ClassId) (cyOc1f37 : ClassId) (cyOa31c1 : ClassId) (S : wPS) {a : Nat} (h : S.K a = 4) (v : Int32) (b : Nat) : va_up (wPF cyI cyOc1f37 cyOa31c1 S) a (.inr (4, [.int (S.O_State.f_night a), va_rf (S.O_State.f_stakes a), va_rf (S.O_State.f_wattle a), va_rf (S.O_State.f_coins a), va_rf (S.O_State.f_eels a), va_rf (S.O_State.f_open a), va_rf (S.O_State.f_owes a), .int (S.O_State.f_barges a), va_rf (S.O_State.f_wide a), va_rf (S.O_State.f_at a), va_rf (S.O_State.f_broken a), va_rf (S.O_State.f_was a), .int (S.O_State.f_arrived a), .int (S.O_State.f_fines a), .int v, va_rf (S.O_State.f_this_0 a)])) b = wPF cyI cyOc1f37 cyOa31c1 { S with O_State := { S.O_State with f_rents := va_up S.O_State.f_rents a v } } b := by by_cases hb : b = a <;> first | (simp only [wPF, va_up_ne _ _ hb]; done) | (simp only [wPF, va_up, if_neg hb]; done) | simp [wPF, va_re, va_up, va_rf, hb, h]
theorem wPu_O_State_f_rents (cyI : ClassId) (cyOc1f37 : ClassId) (cyOa31c1 : ClassId) (X : va_W) (S : wPS) {A : Nat → Prop} {a k : Nat} (hD : va_D A (X ++ va_pl S.L (wPF cyI cyOc1f37 cyOa31c1 S))) (hL : a ∈ S.L) (h : S.K a = 4) (hk : (X ++ va_pl S.L (wPF cyI cyOc1f37 cyOa31c1 S))[k]? = some (a, wPF cyI cyOc1f37 cyOa31c1 S a)) (v : Int32) : (X ++ va_pl S.L (wPF cyI cyOc1f37 cyOa31c1 S)).set k (a, .inr (4, [.int (S.O_State.f_night a), va_rf (S.O_State.f_stakes a), va_rf (S.O_State.f_wattle a), va_rf (S.O_State.f_coins a), va_rf (S.O_State.f_eels a), va_rf (S.O_State.f_open a), va_rf (S.O_State.f_owes a), .int (S.O_State.f_barges a), va_rf (S.O_State.f_wide a), va_rf (S.O_State.f_at a), va_rf (S.O_State.f_broken a), va_rf (S.O_State.f_was a), .int (S.O_State.f_arrived a), .int (S.O_State.f_fines a), .int v, va_rf (S.O_State.f_this_0 a)])) = X ++ va_pl S.L (wPF cyI cyOc1f37 cyOa31c1 { S with O_State := { S.O_State with f_rents := va_up S.O_State.f_rents a v } }) := by
  rw [va_pl_set hD hL hk]
  exact congrArg (fun l => X ++ l) (va_pl_congr (wSt_O_State_f_rents cyI cyOc1f37 cyOa31c1 S h v))
theorem wSt_O_State_f_this_0 (cyI : ClassId) (cyOc1f37 : ClassId) (cyOa31c1 : ClassId) (S : wPS) {a : Nat} (h : S.K a = 4) (v : Option Nat) (b : Nat) : va_up (wPF cyI cyOc1f37 cyOa31c1 S) a (.inr (4, [.int (S.O_State.f_night a), va_rf (S.O_State.f_stakes a), va_rf (S.O_State.f_wattle a), va_rf (S.O_State.f_coins a), va_rf (S.O_State.f_eels a), va_rf (S.O_State.f_open a), va_rf (S.O_State.f_owes a), .int (S.O_State.f_barges a), va_rf (S.O_State.f_wide a), va_rf (S.O_State.f_at a), va_rf (S.O_State.f_broken a), va_rf (S.O_State.f_was a), .int (S.O_State.f_arrived a), .int (S.O_State.f_fines a), .int (S.O_State.f_rents a), va_rf v])) b = wPF cyI cyOc1f37 cyOa31c1 { S with O_State := { S.O_State with f_this_0 := va_up S.O_State.f_this_0 a v } } b := by by_cases hb : b = a <;> first | (simp only [wPF, va_up_ne _ _ hb]; done) | (simp only [wPF, va_up, if_neg hb]; done) | simp [wPF, va_re, va_up, va_rf, hb, h]
theorem wPu_O_State_f_this_0 (cyI : ClassId) (cyOc1f37 : ClassId) (cyOa31c1 : ClassId) (X : va_W) (S : wPS) {A : Nat → Prop} {a k : Nat} (hD : va_D A (X ++ va_pl S.L (wPF cyI cyOc1f37 cyOa31c1 S))) (hL : a ∈ S.L) (h : S.K a = 4) (hk : (X ++ va_pl S.L (wPF cyI cyOc1f37 cyOa31c1 S))[k]? = some (a, wPF cyI cyOc1f37 cyOa31c1 S a)) (v : Option Nat) : (X ++ va_pl S.L (wPF cyI cyOc1f37 cyOa31c1 S)).set k (a, .inr (4, [.int (S.O_State.f_night a), va_rf (S.O_State.f_stakes a), va_rf (S.O_State.f_wattle a), va_rf (S.O_State.f_coins a), va_rf (S.O_State.f_eels a), va_rf (S.O_State.f_open a), va_rf (S.O_State.f_owes a), .int (S.O_State.f_barges a), va_rf (S.O_State.f_wide a), va_rf (S.O_State.f_at a), va_rf (S.O_State.f_broken a), va_rf (S.O_State.f_was a), .int (S.O_State.f_arrived a), .int (S.O_State.f_fines a), .int (S.O_State.f_rents a), va_rf v])) = X ++ va_pl S.L (wPF cyI cyOc1f37 cyOa31c1 { S with O_State := { S.O_State with f_this_0 := va_up S.O_State.f_this_0 a v } }) := by
  rw [va_pl_set hD hL hk]
  exact congrArg (fun l => X ++ l) (va_pl_congr (wSt_O_State_f_this_0 cyI cyOc1f37 cyOa31c1 S h v))
theorem wNw_O_State (cyI : ClassId) (cyOc1f37 : ClassId) (cyOa31c1 : ClassId) (S : wPS) (a b : Nat) : va_up (wPF cyI cyOc1f37 cyOa31c1 S) a (.inr (4, [.int 0, .null, .null, .null, .null, .null, .null, .int 0, .null, .null, .null, .null, .int 0, .int 0, .int 0, .null])) b = wPF cyI cyOc1f37 cyOa31c1 { S with L := S.L ++ [a], K := va_up S.K a 4, O_State := { f_night := va_up S.O_State.f_night a 0, f_stakes := va_up S.O_State.f_stakes a none, f_wattle := va_up S.O_State.f_wattle a none, f_coins := va_up S.O_State.f_coins a none, f_eels := va_up S.O_State.f_eels a none, f_open := va_up S.O_State.f_open a none, f_owes := va_up S.O_State.f_owes a none, f_barges := va_up S.O_State.f_barges a 0, f_wide := va_up S.O_State.f_wide a none, f_at := va_up S.O_State.f_at a none, f_broken := va_up S.O_State.f_broken a none, f_was := va_up S.O_State.f_was a none, f_arrived := va_up S.O_State.f_arrived a 0, f_fines := va_up S.O_State.f_fines a 0, f_rents := va_up S.O_State.f_rents a 0, f_this_0 := va_up S.O_State.f_this_0 a none } } b := by by_cases hb : b = a <;> first | (simp only [wPF, va_up_ne _ _ hb]; done) | (simp only [wPF, va_up, if_neg hb]; done) | simp [wPF, va_re, va_up, va_rf, hb]
theorem wPn_O_State (cyI : ClassId) (cyOc1f37 : ClassId) (cyOa31c1 : ClassId) (X : va_W) (S : wPS) {a : Nat} (ha : a ∉ S.L) : (X ++ va_pl S.L (wPF cyI cyOc1f37 cyOa31c1 S)) ++ [(a, .inr (4, [.int 0, .null, .null, .null, .null, .null, .null, .int 0, .null, .null, .null, .null, .int 0, .int 0, .int 0, .null]))] = X ++ va_pl (S.L ++ [a]) (wPF cyI cyOc1f37 cyOa31c1 { S with L := S.L ++ [a], K := va_up S.K a 4, O_State := { f_night := va_up S.O_State.f_night a 0, f_stakes := va_up S.O_State.f_stakes a none, f_wattle := va_up S.O_State.f_wattle a none, f_coins := va_up S.O_State.f_coins a none, f_eels := va_up S.O_State.f_eels a none, f_open := va_up S.O_State.f_open a none, f_owes := va_up S.O_State.f_owes a none, f_barges := va_up S.O_State.f_barges a 0, f_wide := va_up S.O_State.f_wide a none, f_at := va_up S.O_State.f_at a none, f_broken := va_up S.O_State.f_broken a none, f_was := va_up S.O_State.f_was a none, f_arrived := va_up S.O_State.f_arrived a 0, f_fines := va_up S.O_State.f_fines a 0, f_rents := va_up S.O_State.f_rents a 0, f_this_0 := va_up S.O_State.f_this_0 a none } }) := by
  rw [List.append_assoc, va_pl_push ha]
  exact congrArg (fun l => X ++ l) (va_pl_congr (wNw_O_State cyI cyOc1f37 cyOa31c1 S a))
theorem wAt_O_StakeWeirsModel (cyI : ClassId) (cyOc1f37 : ClassId) (cyOa31c1 : ClassId) (S : wPS) {a : Nat} (h : S.K a = 5) : wPF cyI cyOc1f37 cyOa31c1 S a = .inr (5, [.int (S.O_StakeWeirsModel.f_thrown a), va_rf (S.O_StakeWeirsModel.f_table a), .int (S.O_StakeWeirsModel.f_weirs a), va_rf (S.O_StakeWeirsModel.f_place a), va_rf (S.O_StakeWeirsModel.f_rent a), va_rf (S.O_StakeWeirsModel.f_s a), va_rf (S.O_StakeWeirsModel.f_ahead a)]) := by simp [wPF, h]
theorem wGt_O_StakeWeirsModel (cyI : ClassId) (cyOc1f37 : ClassId) (cyOa31c1 : ClassId) (X : va_W) (S : wPS) {a : Nat} (hL : a ∈ S.L) (h : S.K a = 5) : ∃ k : Nat, (X ++ va_pl S.L (wPF cyI cyOc1f37 cyOa31c1 S))[k]? = some (a, wPF cyI cyOc1f37 cyOa31c1 S a) ∧ (X ++ va_pl S.L (wPF cyI cyOc1f37 cyOa31c1 S))[k]? = some (a, .inr (5, [.int (S.O_StakeWeirsModel.f_thrown a), va_rf (S.O_StakeWeirsModel.f_table a), .int (S.O_StakeWeirsModel.f_weirs a), va_rf (S.O_StakeWeirsModel.f_place a), va_rf (S.O_StakeWeirsModel.f_rent a), va_rf (S.O_StakeWeirsModel.f_s a), va_rf (S.O_StakeWeirsModel.f_ahead a)])) := by
  obtain ⟨k, hk⟩ := va_pl_get (X := X) (f := wPF cyI cyOc1f37 cyOa31c1 S) hL
  exact ⟨k, hk, hk.trans (congrArg (fun e => some (a, e)) (wAt_O_StakeWeirsModel cyI cyOc1f37 cyOa31c1 S h))⟩
theorem wSt_O_StakeWeirsModel_f_thrown (cyI : ClassId) (cyOc1f37 : ClassId) (cyOa31c1 : ClassId) (S : wPS) {a : Nat} (h : S.K a = 5) (v : Int32) (b : Nat) : va_up (wPF cyI cyOc1f37 cyOa31c1 S) a (.inr (5, [.int v, va_rf (S.O_StakeWeirsModel.f_table a), .int (S.O_StakeWeirsModel.f_weirs a), va_rf (S.O_StakeWeirsModel.f_place a), va_rf (S.O_StakeWeirsModel.f_rent a), va_rf (S.O_StakeWeirsModel.f_s a), va_rf (S.O_StakeWeirsModel.f_ahead a)])) b = wPF cyI cyOc1f37 cyOa31c1 { S with O_StakeWeirsModel := { S.O_StakeWeirsModel with f_thrown := va_up S.O_StakeWeirsModel.f_thrown a v } } b := by by_cases hb : b = a <;> first | (simp only [wPF, va_up_ne _ _ hb]; done) | (simp only [wPF, va_up, if_neg hb]; done) | simp [wPF, va_re, va_up, va_rf, hb, h]
theorem wPu_O_StakeWeirsModel_f_thrown (cyI : ClassId) (cyOc1f37 : ClassId) (cyOa31c1 : ClassId) (X : va_W) (S : wPS) {A : Nat → Prop} {a k : Nat} (hD : va_D A (X ++ va_pl S.L (wPF cyI cyOc1f37 cyOa31c1 S))) (hL : a ∈ S.L) (h : S.K a = 5) (hk : (X ++ va_pl S.L (wPF cyI cyOc1f37 cyOa31c1 S))[k]? = some (a, wPF cyI cyOc1f37 cyOa31c1 S a)) (v : Int32) : (X ++ va_pl S.L (wPF cyI cyOc1f37 cyOa31c1 S)).set k (a, .inr (5, [.int v, va_rf (S.O_StakeWeirsModel.f_table a), .int (S.O_StakeWeirsModel.f_weirs a), va_rf (S.O_StakeWeirsModel.f_place a), va_rf (S.O_StakeWeirsModel.f_rent a), va_rf (S.O_StakeWeirsModel.f_s a), va_rf (S.O_StakeWeirsModel.f_ahead a)])) = X ++ va_pl S.L (wPF cyI cyOc1f37 cyOa31c1 { S with O_StakeWeirsModel := { S.O_StakeWeirsModel with f_thrown := va_up S.O_StakeWeirsModel.f_thrown a v } }) := by
  rw [va_pl_set hD hL hk]
  exact congrArg (fun l => X ++ l) (va_pl_congr (wSt_O_StakeWeirsModel_f_thrown cyI cyOc1f37 cyOa31c1 S h v))
theorem wSt_O_StakeWeirsModel_f_table (cyI : ClassId) (cyOc1f37 : ClassId) (cyOa31c1 : ClassId) (S : wPS) {a : Nat} (h : S.K a = 5) (v : Option Nat) (b : Nat) : va_up (wPF cyI cyOc1f37 cyOa31c1 S) a (.inr (5, [.int (S.O_StakeWeirsModel.f_thrown a), va_rf v, .int (S.O_StakeWeirsModel.f_weirs a), va_rf (S.O_StakeWeirsModel.f_place a), va_rf (S.O_StakeWeirsModel.f_rent a), va_rf (S.O_StakeWeirsModel.f_s a), va_rf (S.O_StakeWeirsModel.f_ahead a)])) b = wPF cyI cyOc1f37 cyOa31c1 { S with O_StakeWeirsModel := { S.O_StakeWeirsModel with f_table := va_up S.O_StakeWeirsModel.f_table a v } } b := by by_cases hb : b = a <;> first | (simp only [wPF, va_up_ne _ _ hb]; done) | (simp only [wPF, va_up, if_neg hb]; done) | simp [wPF, va_re, va_up, va_rf, hb, h]
theorem wPu_O_StakeWeirsModel_f_table (cyI : ClassId) (cyOc1f37 : ClassId) (cyOa31c1 : ClassId) (X : va_W) (S : wPS) {A : Nat → Prop} {a k : Nat} (hD : va_D A (X ++ va_pl S.L (wPF cyI cyOc1f37 cyOa31c1 S))) (hL : a ∈ S.L) (h : S.K a = 5) (hk : (X ++ va_pl S.L (wPF cyI cyOc1f37 cyOa31c1 S))[k]? = some (a, wPF cyI cyOc1f37 cyOa31c1 S a)) (v : Option Nat) : (X ++ va_pl S.L (wPF cyI cyOc1f37 cyOa31c1 S)).set k (a, .inr (5, [.int (S.O_StakeWeirsModel.f_thrown a), va_rf v, .int (S.O_StakeWeirsModel.f_weirs a), va_rf (S.O_StakeWeirsModel.f_place a), va_rf (S.O_StakeWeirsModel.f_rent a), va_rf (S.O_StakeWeirsModel.f_s a), va_rf (S.O_StakeWeirsModel.f_ahead a)])) = X ++ va_pl S.L (wPF cyI cyOc1f37 cyOa31c1 { S with O_StakeWeirsModel := { S.O_StakeWeirsModel with f_table := va_up S.O_StakeWeirsModel.f_table a v } }) := by
  rw [va_pl_set hD hL hk]
  exact congrArg (fun l => X ++ l) (va_pl_congr (wSt_O_StakeWeirsModel_f_table cyI cyOc1f37 cyOa31c1 S h v))
theorem wSt_O_StakeWeirsModel_f_weirs (cyI : ClassId) (cyOc1f37 : ClassId) (cyOa31c1 : ClassId) (S : wPS) {a : Nat} (h : S.K a = 5) (v : Int32) (b : Nat) : va_up (wPF cyI cyOc1f37 cyOa31c1 S) a (.inr (5, [.int (S.O_StakeWeirsModel.f_thrown a), va_rf (S.O_StakeWeirsModel.f_table a), .int v, va_rf (S.O_StakeWeirsModel.f_place a), va_rf (S.O_StakeWeirsModel.f_rent a), va_rf (S.O_StakeWeirsModel.f_s a), va_rf (S.O_StakeWeirsModel.f_ahead a)])) b = wPF cyI cyOc1f37 cyOa31c1 { S with O_StakeWeirsModel := { S.O_StakeWeirsModel with f_weirs := va_up S.O_StakeWeirsModel.f_weirs a v } } b := by by_cases hb : b = a <;> first | (simp only [wPF, va_up_ne _ _ hb]; done) | (simp only [wPF, va_up, if_neg hb]; done) | simp [wPF, va_re, va_up, va_rf, hb, h]
theorem wPu_O_StakeWeirsModel_f_weirs (cyI : ClassId) (cyOc1f37 : ClassId) (cyOa31c1 : ClassId) (X : va_W) (S : wPS) {A : Nat → Prop} {a k : Nat} (hD : va_D A (X ++ va_pl S.L (wPF cyI cyOc1f37 cyOa31c1 S))) (hL : a ∈ S.L) (h : S.K a = 5) (hk : (X ++ va_pl S.L (wPF cyI cyOc1f37 cyOa31c1 S))[k]? = some (a, wPF cyI cyOc1f37 cyOa31c1 S a)) (v : Int32) : (X ++ va_pl S.L (wPF cyI cyOc1f37 cyOa31c1 S)).set k (a, .inr (5, [.int (S.O_StakeWeirsModel.f_thrown a), va_rf (S.O_StakeWeirsModel.f_table a), .int v, va_rf (S.O_StakeWeirsModel.f_place a), va_rf (S.O_StakeWeirsModel.f_rent a), va_rf (S.O_StakeWeirsModel.f_s a), va_rf (S.O_StakeWeirsModel.f_ahead a)])) = X ++ va_pl S.L (wPF cyI cyOc1f37 cyOa31c1 { S with O_StakeWeirsModel := { S.O_StakeWeirsModel with f_weirs := va_up S.O_StakeWeirsModel.f_weirs a v } }) := by
  rw [va_pl_set hD hL hk]
  exact congrArg (fun l => X ++ l) (va_pl_congr (wSt_O_StakeWeirsModel_f_weirs cyI cyOc1f37 cyOa31c1 S h v))
theorem wSt_O_StakeWeirsModel_f_place (cyI : ClassId) (cyOc1f37 : ClassId) (cyOa31c1 : ClassId) (S : wPS) {a : Nat} (h : S.K a = 5) (v : Option Nat) (b : Nat) : va_up (wPF cyI cyOc1f37 cyOa31c1 S) a (.inr (5, [.int (S.O_StakeWeirsModel.f_thrown a), va_rf (S.O_StakeWeirsModel.f_table a), .int (S.O_StakeWeirsModel.f_weirs a), va_rf v, va_rf (S.O_StakeWeirsModel.f_rent a), va_rf (S.O_StakeWeirsModel.f_s a), va_rf (S.O_StakeWeirsModel.f_ahead a)])) b = wPF cyI cyOc1f37 cyOa31c1 { S with O_StakeWeirsModel := { S.O_StakeWeirsModel with f_place := va_up S.O_StakeWeirsModel.f_place a v } } b := by by_cases hb : b = a <;> first | (simp only [wPF, va_up_ne _ _ hb]; done) | (simp only [wPF, va_up, if_neg hb]; done) | simp [wPF, va_re, va_up, va_rf, hb, h]
theorem wPu_O_StakeWeirsModel_f_place (cyI : ClassId) (cyOc1f37 : ClassId) (cyOa31c1 : ClassId) (X : va_W) (S : wPS) {A : Nat → Prop} {a k : Nat} (hD : va_D A (X ++ va_pl S.L (wPF cyI cyOc1f37 cyOa31c1 S))) (hL : a ∈ S.L) (h : S.K a = 5) (hk : (X ++ va_pl S.L (wPF cyI cyOc1f37 cyOa31c1 S))[k]? = some (a, wPF cyI cyOc1f37 cyOa31c1 S a)) (v : Option Nat) : (X ++ va_pl S.L (wPF cyI cyOc1f37 cyOa31c1 S)).set k (a, .inr (5, [.int (S.O_StakeWeirsModel.f_thrown a), va_rf (S.O_StakeWeirsModel.f_table a), .int (S.O_StakeWeirsModel.f_weirs a), va_rf v, va_rf (S.O_StakeWeirsModel.f_rent a), va_rf (S.O_StakeWeirsModel.f_s a), va_rf (S.O_StakeWeirsModel.f_ahead a)])) = X ++ va_pl S.L (wPF cyI cyOc1f37 cyOa31c1 { S with O_StakeWeirsModel := { S.O_StakeWeirsModel with f_place := va_up S.O_StakeWeirsModel.f_place a v } }) := by
  rw [va_pl_set hD hL hk]
  exact congrArg (fun l => X ++ l) (va_pl_congr (wSt_O_StakeWeirsModel_f_place cyI cyOc1f37 cyOa31c1 S h v))
theorem wSt_O_StakeWeirsModel_f_rent (cyI : ClassId) (cyOc1f37 : ClassId) (cyOa31c1 : ClassId) (S : wPS) {a : Nat} (h : S.K a = 5) (v : Option Nat) (b : Nat) : va_up (wPF cyI cyOc1f37 cyOa31c1 S) a (.inr (5, [.int (S.O_StakeWeirsModel.f_thrown a), va_rf (S.O_StakeWeirsModel.f_table a), .int (S.O_StakeWeirsModel.f_weirs a), va_rf (S.O_StakeWeirsModel.f_place a), va_rf v, va_rf (S.O_StakeWeirsModel.f_s a), va_rf (S.O_StakeWeirsModel.f_ahead a)])) b = wPF cyI cyOc1f37 cyOa31c1 { S with O_StakeWeirsModel := { S.O_StakeWeirsModel with f_rent := va_up S.O_StakeWeirsModel.f_rent a v } } b := by by_cases hb : b = a <;> first | (simp only [wPF, va_up_ne _ _ hb]; done) | (simp only [wPF, va_up, if_neg hb]; done) | simp [wPF, va_re, va_up, va_rf, hb, h]
theorem wPu_O_StakeWeirsModel_f_rent (cyI : ClassId) (cyOc1f37 : ClassId) (cyOa31c1 : ClassId) (X : va_W) (S : wPS) {A : Nat → Prop} {a k : Nat} (hD : va_D A (X ++ va_pl S.L (wPF cyI cyOc1f37 cyOa31c1 S))) (hL : a ∈ S.L) (h : S.K a = 5) (hk : (X ++ va_pl S.L (wPF cyI cyOc1f37 cyOa31c1 S))[k]? = some (a, wPF cyI cyOc1f37 cyOa31c1 S a)) (v : Option Nat) : (X ++ va_pl S.L (wPF cyI cyOc1f37 cyOa31c1 S)).set k (a, .inr (5, [.int (S.O_StakeWeirsModel.f_thrown a), va_rf (S.O_StakeWeirsModel.f_table a), .int (S.O_StakeWeirsModel.f_weirs a), va_rf (S.O_StakeWeirsModel.f_place a), va_rf v, va_rf (S.O_StakeWeirsModel.f_s a), va_rf (S.O_StakeWeirsModel.f_ahead a)])) = X ++ va_pl S.L (wPF cyI cyOc1f37 cyOa31c1 { S with O_StakeWeirsModel := { S.O_StakeWeirsModel with f_rent := va_up S.O_StakeWeirsModel.f_rent a v } }) := by
  rw [va_pl_set hD hL hk]
  exact congrArg (fun l => X ++ l) (va_pl_congr (wSt_O_StakeWeirsModel_f_rent cyI cyOc1f37 cyOa31c1 S h v))
theorem wSt_O_StakeWeirsModel_f_s (cyI : ClassId) (cyOc1f37 : ClassId) (cyOa31c1 : ClassId) (S : wPS) {a : Nat} (h : S.K a = 5) (v : Option Nat) (b : Nat) : va_up (wPF cyI cyOc1f37 cyOa31c1 S) a (.inr (5, [.int (S.O_StakeWeirsModel.f_thrown a), va_rf (S.O_StakeWeirsModel.f_table a), .int (S.O_StakeWeirsModel.f_weirs a), va_rf (S.O_StakeWeirsModel.f_place a), va_rf (S.O_StakeWeirsModel.f_rent a), va_rf v, va_rf (S.O_StakeWeirsModel.f_ahead a)])) b = wPF cyI cyOc1f37 cyOa31c1 { S with O_StakeWeirsModel := { S.O_StakeWeirsModel with f_s := va_up S.O_StakeWeirsModel.f_s a v } } b := by by_cases hb : b = a <;> first | (simp only [wPF, va_up_ne _ _ hb]; done) | (simp only [wPF, va_up, if_neg hb]; done) | simp [wPF, va_re, va_up, va_rf, hb, h]
theorem wPu_O_StakeWeirsModel_f_s (cyI : ClassId) (cyOc1f37 : ClassId) (cyOa31c1 : ClassId) (X : va_W) (S : wPS) {A : Nat → Prop} {a k : Nat} (hD : va_D A (X ++ va_pl S.L (wPF cyI cyOc1f37 cyOa31c1 S))) (hL : a ∈ S.L) (h : S.K a = 5) (hk : (X ++ va_pl S.L (wPF cyI cyOc1f37 cyOa31c1 S))[k]? = some (a, wPF cyI cyOc1f37 cyOa31c1 S a)) (v : Option Nat) : (X ++ va_pl S.L (wPF cyI cyOc1f37 cyOa31c1 S)).set k (a, .inr (5, [.int (S.O_StakeWeirsModel.f_thrown a), va_rf (S.O_StakeWeirsModel.f_table a), .int (S.O_StakeWeirsModel.f_weirs a), va_rf (S.O_StakeWeirsModel.f_place a), va_rf (S.O_StakeWeirsModel.f_rent a), va_rf v, va_rf (S.O_StakeWeirsModel.f_ahead a)])) = X ++ va_pl S.L (wPF cyI cyOc1f37 cyOa31c1 { S with O_StakeWeirsModel := { S.O_StakeWeirsModel with f_s := va_up S.O_StakeWeirsModel.f_s a v } }) := by
  rw [va_pl_set hD hL hk]
  exact congrArg (fun l => X ++ l) (va_pl_congr (wSt_O_StakeWeirsModel_f_s cyI cyOc1f37 cyOa31c1 S h v))
theorem wSt_O_StakeWeirsModel_f_ahead (cyI : ClassId) (cyOc1f37 : ClassId) (cyOa31c1 : ClassId) (S : wPS) {a : Nat} (h : S.K a = 5) (v : Option Nat) (b : Nat) : va_up (wPF cyI cyOc1f37 cyOa31c1 S) a (.inr (5, [.int (S.O_StakeWeirsModel.f_thrown a), va_rf (S.O_StakeWeirsModel.f_table a), .int (S.O_StakeWeirsModel.f_weirs a), va_rf (S.O_StakeWeirsModel.f_place a), va_rf (S.O_StakeWeirsModel.f_rent a), va_rf (S.O_StakeWeirsModel.f_s a), va_rf v])) b = wPF cyI cyOc1f37 cyOa31c1 { S with O_StakeWeirsModel := { S.O_StakeWeirsModel with f_ahead := va_up S.O_StakeWeirsModel.f_ahead a v } } b := by by_cases hb : b = a <;> first | (simp only [wPF, va_up_ne _ _ hb]; done) | (simp only [wPF, va_up, if_neg hb]; done) | simp [wPF, va_re, va_up, va_rf, hb, h]
theorem wPu_O_StakeWeirsModel_f_ahead (cyI : ClassId) (cyOc1f37 : ClassId) (cyOa31c1 : ClassId) (X : va_W) (S : wPS) {A : Nat → Prop} {a k : Nat} (hD : va_D A (X ++ va_pl S.L (wPF cyI cyOc1f37 cyOa31c1 S))) (hL : a ∈ S.L) (h : S.K a = 5) (hk : (X ++ va_pl S.L (wPF cyI cyOc1f37 cyOa31c1 S))[k]? = some (a, wPF cyI cyOc1f37 cyOa31c1 S a)) (v : Option Nat) : (X ++ va_pl S.L (wPF cyI cyOc1f37 cyOa31c1 S)).set k (a, .inr (5, [.int (S.O_StakeWeirsModel.f_thrown a), va_rf (S.O_StakeWeirsModel.f_table a), .int (S.O_StakeWeirsModel.f_weirs a), va_rf (S.O_StakeWeirsModel.f_place a), va_rf (S.O_StakeWeirsModel.f_rent a), va_rf (S.O_StakeWeirsModel.f_s a), va_rf v])) = X ++ va_pl S.L (wPF cyI cyOc1f37 cyOa31c1 { S with O_StakeWeirsModel := { S.O_StakeWeirsModel with f_ahead := va_up S.O_StakeWeirsModel.f_ahead a v } }) := by
  rw [va_pl_set hD hL hk]
  exact congrArg (fun l => X ++ l) (va_pl_congr (wSt_O_StakeWeirsModel_f_ahead cyI cyOc1f37 cyOa31c1 S h v))
theorem wNw_O_StakeWeirsModel (cyI : ClassId) (cyOc1f37 : ClassId) (cyOa31c1 : ClassId) (S : wPS) (a b : Nat) : va_up (wPF cyI cyOc1f37 cyOa31c1 S) a (.inr (5, [.int 0, .null, .int 0, .null, .null, .null, .null])) b = wPF cyI cyOc1f37 cyOa31c1 { S with L := S.L ++ [a], K := va_up S.K a 5, O_StakeWeirsModel := { f_thrown := va_up S.O_StakeWeirsModel.f_thrown a 0, f_table := va_up S.O_StakeWeirsModel.f_table a none, f_weirs := va_up S.O_StakeWeirsModel.f_weirs a 0, f_place := va_up S.O_StakeWeirsModel.f_place a none, f_rent := va_up S.O_StakeWeirsModel.f_rent a none, f_s := va_up S.O_StakeWeirsModel.f_s a none, f_ahead := va_up S.O_StakeWeirsModel.f_ahead a none } } b := by by_cases hb : b = a <;> first | (simp only [wPF, va_up_ne _ _ hb]; done) | (simp only [wPF, va_up, if_neg hb]; done) | simp [wPF, va_re, va_up, va_rf, hb]
theorem wPn_O_StakeWeirsModel (cyI : ClassId) (cyOc1f37 : ClassId) (cyOa31c1 : ClassId) (X : va_W) (S : wPS) {a : Nat} (ha : a ∉ S.L) : (X ++ va_pl S.L (wPF cyI cyOc1f37 cyOa31c1 S)) ++ [(a, .inr (5, [.int 0, .null, .int 0, .null, .null, .null, .null]))] = X ++ va_pl (S.L ++ [a]) (wPF cyI cyOc1f37 cyOa31c1 { S with L := S.L ++ [a], K := va_up S.K a 5, O_StakeWeirsModel := { f_thrown := va_up S.O_StakeWeirsModel.f_thrown a 0, f_table := va_up S.O_StakeWeirsModel.f_table a none, f_weirs := va_up S.O_StakeWeirsModel.f_weirs a 0, f_place := va_up S.O_StakeWeirsModel.f_place a none, f_rent := va_up S.O_StakeWeirsModel.f_rent a none, f_s := va_up S.O_StakeWeirsModel.f_s a none, f_ahead := va_up S.O_StakeWeirsModel.f_ahead a none } }) := by
  rw [List.append_assoc, va_pl_push ha]
  exact congrArg (fun l => X ++ l) (va_pl_congr (wNw_O_StakeWeirsModel cyI cyOc1f37 cyOa31c1 S a))
theorem wAt_R_I (cyI : ClassId) (cyOc1f37 : ClassId) (cyOa31c1 : ClassId) (S : wPS) {a : Nat} (h : S.K a = 6) : wPF cyI cyOc1f37 cyOa31c1 S a = .inl (cyI, S.R_I.len a, .inl (S.R_I.row a)) := by simp [wPF, h]
theorem wGt_R_I (cyI : ClassId) (cyOc1f37 : ClassId) (cyOa31c1 : ClassId) (X : va_W) (S : wPS) {a : Nat} (hL : a ∈ S.L) (h : S.K a = 6) : ∃ k : Nat, (X ++ va_pl S.L (wPF cyI cyOc1f37 cyOa31c1 S))[k]? = some (a, wPF cyI cyOc1f37 cyOa31c1 S a) ∧ (X ++ va_pl S.L (wPF cyI cyOc1f37 cyOa31c1 S))[k]? = some (a, .inl (cyI, S.R_I.len a, .inl (S.R_I.row a))) := by
  obtain ⟨k, hk⟩ := va_pl_get (X := X) (f := wPF cyI cyOc1f37 cyOa31c1 S) hL
  exact ⟨k, hk, hk.trans (congrArg (fun e => some (a, e)) (wAt_R_I cyI cyOc1f37 cyOa31c1 S h))⟩
theorem wSt_R_I_row (cyI : ClassId) (cyOc1f37 : ClassId) (cyOa31c1 : ClassId) (S : wPS) {a : Nat} (h : S.K a = 6) (v : Nat → Int32) (b : Nat) : va_up (wPF cyI cyOc1f37 cyOa31c1 S) a (.inl (cyI, S.R_I.len a, .inl v)) b = wPF cyI cyOc1f37 cyOa31c1 { S with R_I := { S.R_I with row := va_up S.R_I.row a v } } b := by by_cases hb : b = a <;> first | (simp only [wPF, va_up_ne _ _ hb]; done) | (simp only [wPF, va_up, if_neg hb]; done) | simp [wPF, va_re, va_up, va_rf, hb, h]
theorem wPu_R_I_row (cyI : ClassId) (cyOc1f37 : ClassId) (cyOa31c1 : ClassId) (X : va_W) (S : wPS) {A : Nat → Prop} {a k : Nat} (hD : va_D A (X ++ va_pl S.L (wPF cyI cyOc1f37 cyOa31c1 S))) (hL : a ∈ S.L) (h : S.K a = 6) (hk : (X ++ va_pl S.L (wPF cyI cyOc1f37 cyOa31c1 S))[k]? = some (a, wPF cyI cyOc1f37 cyOa31c1 S a)) (v : Nat → Int32) : (X ++ va_pl S.L (wPF cyI cyOc1f37 cyOa31c1 S)).set k (a, .inl (cyI, S.R_I.len a, .inl v)) = X ++ va_pl S.L (wPF cyI cyOc1f37 cyOa31c1 { S with R_I := { S.R_I with row := va_up S.R_I.row a v } }) := by
  rw [va_pl_set hD hL hk]
  exact congrArg (fun l => X ++ l) (va_pl_congr (wSt_R_I_row cyI cyOc1f37 cyOa31c1 S h v))
theorem wNw_R_I (cyI : ClassId) (cyOc1f37 : ClassId) (cyOa31c1 : ClassId) (S : wPS) (a : Nat) (z : Nat) (f : Nat → Int32) (b : Nat) : va_up (wPF cyI cyOc1f37 cyOa31c1 S) a (.inl (cyI, z, .inl f)) b = wPF cyI cyOc1f37 cyOa31c1 { S with L := S.L ++ [a], K := va_up S.K a 6, R_I := { len := va_up S.R_I.len a z, row := va_up S.R_I.row a f } } b := by by_cases hb : b = a <;> first | (simp only [wPF, va_up_ne _ _ hb]; done) | (simp only [wPF, va_up, if_neg hb]; done) | simp [wPF, va_re, va_up, va_rf, hb]
theorem wAt_R_Barge (cyI : ClassId) (cyOc1f37 : ClassId) (cyOa31c1 : ClassId) (S : wPS) {a : Nat} (h : S.K a = 7) : wPF cyI cyOc1f37 cyOa31c1 S a = .inl (cyOc1f37, S.R_Barge.len a, .inr (.inr (.inr (.inr (S.R_Barge.row a))))) := by simp [wPF, h]
theorem wGt_R_Barge (cyI : ClassId) (cyOc1f37 : ClassId) (cyOa31c1 : ClassId) (X : va_W) (S : wPS) {a : Nat} (hL : a ∈ S.L) (h : S.K a = 7) : ∃ k : Nat, (X ++ va_pl S.L (wPF cyI cyOc1f37 cyOa31c1 S))[k]? = some (a, wPF cyI cyOc1f37 cyOa31c1 S a) ∧ (X ++ va_pl S.L (wPF cyI cyOc1f37 cyOa31c1 S))[k]? = some (a, .inl (cyOc1f37, S.R_Barge.len a, .inr (.inr (.inr (.inr (S.R_Barge.row a)))))) := by
  obtain ⟨k, hk⟩ := va_pl_get (X := X) (f := wPF cyI cyOc1f37 cyOa31c1 S) hL
  exact ⟨k, hk, hk.trans (congrArg (fun e => some (a, e)) (wAt_R_Barge cyI cyOc1f37 cyOa31c1 S h))⟩
theorem wSt_R_Barge_row (cyI : ClassId) (cyOc1f37 : ClassId) (cyOa31c1 : ClassId) (S : wPS) {a : Nat} (h : S.K a = 7) (v : Nat → Option Nat) (b : Nat) : va_up (wPF cyI cyOc1f37 cyOa31c1 S) a (.inl (cyOc1f37, S.R_Barge.len a, .inr (.inr (.inr (.inr v))))) b = wPF cyI cyOc1f37 cyOa31c1 { S with R_Barge := { S.R_Barge with row := va_up S.R_Barge.row a v } } b := by by_cases hb : b = a <;> first | (simp only [wPF, va_up_ne _ _ hb]; done) | (simp only [wPF, va_up, if_neg hb]; done) | simp [wPF, va_re, va_up, va_rf, hb, h]
theorem wPu_R_Barge_row (cyI : ClassId) (cyOc1f37 : ClassId) (cyOa31c1 : ClassId) (X : va_W) (S : wPS) {A : Nat → Prop} {a k : Nat} (hD : va_D A (X ++ va_pl S.L (wPF cyI cyOc1f37 cyOa31c1 S))) (hL : a ∈ S.L) (h : S.K a = 7) (hk : (X ++ va_pl S.L (wPF cyI cyOc1f37 cyOa31c1 S))[k]? = some (a, wPF cyI cyOc1f37 cyOa31c1 S a)) (v : Nat → Option Nat) : (X ++ va_pl S.L (wPF cyI cyOc1f37 cyOa31c1 S)).set k (a, .inl (cyOc1f37, S.R_Barge.len a, .inr (.inr (.inr (.inr v))))) = X ++ va_pl S.L (wPF cyI cyOc1f37 cyOa31c1 { S with R_Barge := { S.R_Barge with row := va_up S.R_Barge.row a v } }) := by
  rw [va_pl_set hD hL hk]
  exact congrArg (fun l => X ++ l) (va_pl_congr (wSt_R_Barge_row cyI cyOc1f37 cyOa31c1 S h v))
theorem wNw_R_Barge (cyI : ClassId) (cyOc1f37 : ClassId) (cyOa31c1 : ClassId) (S : wPS) (a : Nat) (z : Nat) (f : Nat → Option Nat) (b : Nat) : va_up (wPF cyI cyOc1f37 cyOa31c1 S) a (.inl (cyOc1f37, z, .inr (.inr (.inr (.inr f))))) b = wPF cyI cyOc1f37 cyOa31c1 { S with L := S.L ++ [a], K := va_up S.K a 7, R_Barge := { len := va_up S.R_Barge.len a z, row := va_up S.R_Barge.row a f } } b := by by_cases hb : b = a <;> first | (simp only [wPF, va_up_ne _ _ hb]; done) | (simp only [wPF, va_up, if_neg hb]; done) | simp [wPF, va_re, va_up, va_rf, hb]
theorem wAt_R_Weir (cyI : ClassId) (cyOc1f37 : ClassId) (cyOa31c1 : ClassId) (S : wPS) {a : Nat} (h : S.K a = 8) : wPF cyI cyOc1f37 cyOa31c1 S a = .inl (cyOa31c1, S.R_Weir.len a, .inr (.inr (.inr (.inr (S.R_Weir.row a))))) := by simp [wPF, h]
theorem wGt_R_Weir (cyI : ClassId) (cyOc1f37 : ClassId) (cyOa31c1 : ClassId) (X : va_W) (S : wPS) {a : Nat} (hL : a ∈ S.L) (h : S.K a = 8) : ∃ k : Nat, (X ++ va_pl S.L (wPF cyI cyOc1f37 cyOa31c1 S))[k]? = some (a, wPF cyI cyOc1f37 cyOa31c1 S a) ∧ (X ++ va_pl S.L (wPF cyI cyOc1f37 cyOa31c1 S))[k]? = some (a, .inl (cyOa31c1, S.R_Weir.len a, .inr (.inr (.inr (.inr (S.R_Weir.row a)))))) := by
  obtain ⟨k, hk⟩ := va_pl_get (X := X) (f := wPF cyI cyOc1f37 cyOa31c1 S) hL
  exact ⟨k, hk, hk.trans (congrArg (fun e => some (a, e)) (wAt_R_Weir cyI cyOc1f37 cyOa31c1 S h))⟩
theorem wSt_R_Weir_row (cyI : ClassId) (cyOc1f37 : ClassId) (cyOa31c1 : ClassId) (S : wPS) {a : Nat} (h : S.K a = 8) (v : Nat → Option Nat) (b : Nat) : va_up (wPF cyI cyOc1f37 cyOa31c1 S) a (.inl (cyOa31c1, S.R_Weir.len a, .inr (.inr (.inr (.inr v))))) b = wPF cyI cyOc1f37 cyOa31c1 { S with R_Weir := { S.R_Weir with row := va_up S.R_Weir.row a v } } b := by by_cases hb : b = a <;> first | (simp only [wPF, va_up_ne _ _ hb]; done) | (simp only [wPF, va_up, if_neg hb]; done) | simp [wPF, va_re, va_up, va_rf, hb, h]
theorem wPu_R_Weir_row (cyI : ClassId) (cyOc1f37 : ClassId) (cyOa31c1 : ClassId) (X : va_W) (S : wPS) {A : Nat → Prop} {a k : Nat} (hD : va_D A (X ++ va_pl S.L (wPF cyI cyOc1f37 cyOa31c1 S))) (hL : a ∈ S.L) (h : S.K a = 8) (hk : (X ++ va_pl S.L (wPF cyI cyOc1f37 cyOa31c1 S))[k]? = some (a, wPF cyI cyOc1f37 cyOa31c1 S a)) (v : Nat → Option Nat) : (X ++ va_pl S.L (wPF cyI cyOc1f37 cyOa31c1 S)).set k (a, .inl (cyOa31c1, S.R_Weir.len a, .inr (.inr (.inr (.inr v))))) = X ++ va_pl S.L (wPF cyI cyOc1f37 cyOa31c1 { S with R_Weir := { S.R_Weir with row := va_up S.R_Weir.row a v } }) := by
  rw [va_pl_set hD hL hk]
  exact congrArg (fun l => X ++ l) (va_pl_congr (wSt_R_Weir_row cyI cyOc1f37 cyOa31c1 S h v))
theorem wNw_R_Weir (cyI : ClassId) (cyOc1f37 : ClassId) (cyOa31c1 : ClassId) (S : wPS) (a : Nat) (z : Nat) (f : Nat → Option Nat) (b : Nat) : va_up (wPF cyI cyOc1f37 cyOa31c1 S) a (.inl (cyOa31c1, z, .inr (.inr (.inr (.inr f))))) b = wPF cyI cyOc1f37 cyOa31c1 { S with L := S.L ++ [a], K := va_up S.K a 8, R_Weir := { len := va_up S.R_Weir.len a z, row := va_up S.R_Weir.row a f } } b := by by_cases hb : b = a <;> first | (simp only [wPF, va_up_ne _ _ hb]; done) | (simp only [wPF, va_up, if_neg hb]; done) | simp [wPF, va_re, va_up, va_rf, hb]
/-! ===== END printed: names ===== -/
