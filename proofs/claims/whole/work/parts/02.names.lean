/-! ===== BEGIN printed: names, fields, word lists, decode rows ===== -/
def RX0 : String := "LanternWeirs$Bed"
def TX0 : u_T := fun k => match k with
  | 0 => ("LanternWeirs$Bed", "currents", "LLanternWeirs$Row;", true)
  | 1 => ("LanternWeirs$Bed", "sprays", "LLanternWeirs$Row;", true)
  | 2 => ("LanternWeirs$Bed", "nets", "LLanternWeirs$Row;", true)
  | 3 => ("LanternWeirs$Bed", "weirs", "I", false)
  | _ => ("LanternWeirs$Bed", "netCount", "I", false)
def tyX0 : Nat → FieldType := fun k => match k with
  | 0 => .object "LanternWeirs$Row"
  | 1 => .object "LanternWeirs$Row"
  | 2 => .object "LanternWeirs$Row"
  | 3 => .int
  | _ => .int
abbrev wsX00 : List Cond := u_ws RX0 TX0 5
theorem nmX0 : ∀ a, a < 5 → ∀ b, b < 5 → a ≠ b → (TX0 a).2.1 ≠ (TX0 b).2.1 := by decide +kernel
theorem tyX0_ok : ∀ k, k < 5 → parseFieldDescriptor (TX0 k).2.2.1 = some (tyX0 k) := by decide +kernel
abbrev cX0_init : ByteArray := prog_2_method_1_code
def yX0_init : MethodName := ⟨RX0, "<init>", "()V"⟩
abbrev cX0_addWeir : ByteArray := prog_2_method_2_code
def yX0_addWeir : MethodName := ⟨RX0, "addWeir", "(II)I"⟩
abbrev cX0_addNet : ByteArray := prog_2_method_3_code
def yX0_addNet : MethodName := ⟨RX0, "addNet", "(II)I"⟩
abbrev cX0_hasNet : ByteArray := prog_2_method_4_code
def yX0_hasNet : MethodName := ⟨RX0, "hasNet", "(II)Z"⟩
def RX1 : String := "LanternWeirs$Fleet"
def TX1 : u_T := fun k => match k with
  | 0 => ("LanternWeirs$Fleet", "frames", "LLanternWeirs$Row;", true)
  | 1 => ("LanternWeirs$Fleet", "wishes", "LLanternWeirs$Row;", true)
  | 2 => ("LanternWeirs$Fleet", "lanes", "LLanternWeirs$Row;", true)
  | 3 => ("LanternWeirs$Fleet", "places", "LLanternWeirs$Row;", true)
  | 4 => ("LanternWeirs$Fleet", "waxes", "LLanternWeirs$Row;", true)
  | 5 => ("LanternWeirs$Fleet", "wets", "LLanternWeirs$Row;", true)
  | 6 => ("LanternWeirs$Fleet", "burning", "LLanternWeirs$Row;", true)
  | 7 => ("LanternWeirs$Fleet", "states", "LLanternWeirs$Row;", true)
  | 8 => ("LanternWeirs$Fleet", "ends", "LLanternWeirs$Row;", true)
  | 9 => ("LanternWeirs$Fleet", "crowd", "LLanternWeirs$Row;", true)
  | 10 => ("LanternWeirs$Fleet", "queue", "LLanternWeirs$Row;", true)
  | 11 => ("LanternWeirs$Fleet", "size", "I", false)
  | _ => ("LanternWeirs$Fleet", "minute", "I", false)
def tyX1 : Nat → FieldType := fun k => match k with
  | 0 => .object "LanternWeirs$Row"
  | 1 => .object "LanternWeirs$Row"
  | 2 => .object "LanternWeirs$Row"
  | 3 => .object "LanternWeirs$Row"
  | 4 => .object "LanternWeirs$Row"
  | 5 => .object "LanternWeirs$Row"
  | 6 => .object "LanternWeirs$Row"
  | 7 => .object "LanternWeirs$Row"
  | 8 => .object "LanternWeirs$Row"
  | 9 => .object "LanternWeirs$Row"
  | 10 => .object "LanternWeirs$Row"
  | 11 => .int
  | _ => .int
abbrev wsX10 : List Cond := u_ws RX1 TX1 13
theorem nmX1 : ∀ a, a < 13 → ∀ b, b < 13 → a ≠ b → (TX1 a).2.1 ≠ (TX1 b).2.1 := by decide +kernel
theorem tyX1_ok : ∀ k, k < 13 → parseFieldDescriptor (TX1 k).2.2.1 = some (tyX1 k) := by decide +kernel
abbrev cX1_init : ByteArray := prog_3_method_1_code
def yX1_init : MethodName := ⟨RX1, "<init>", "()V"⟩
abbrev cX1_copy : ByteArray := prog_3_method_2_code
def yX1_copy : MethodName := ⟨RX1, "copy", "(LLanternWeirs$Fleet;)V"⟩
abbrev cX1_add : ByteArray := prog_3_method_3_code
def yX1_add : MethodName := ⟨RX1, "add", "(IIII)I"⟩
abbrev cX1_has : ByteArray := prog_3_method_4_code
def yX1_has : MethodName := ⟨RX1, "has", "(I)Z"⟩
abbrev cX1_isAfloat : ByteArray := prog_3_method_5_code
def yX1_isAfloat : MethodName := ⟨RX1, "isAfloat", "(I)Z"⟩
abbrev cX1_isBurning : ByteArray := prog_3_method_6_code
def yX1_isBurning : MethodName := ⟨RX1, "isBurning", "(I)Z"⟩
abbrev cX1_isSoaked : ByteArray := prog_3_method_7_code
def yX1_isSoaked : MethodName := ⟨RX1, "isSoaked", "(I)Z"⟩
abbrev cX1_canBeLit : ByteArray := prog_3_method_8_code
def yX1_canBeLit : MethodName := ⟨RX1, "canBeLit", "(I)Z"⟩
abbrev cX1_moveTo : ByteArray := prog_3_method_9_code
def yX1_moveTo : MethodName := ⟨RX1, "moveTo", "(III)V"⟩
abbrev cX1_fact : ByteArray := prog_3_method_10_code
def yX1_fact : MethodName := ⟨RX1, "fact", "(II)I"⟩
abbrev cX1_floatingAt : ByteArray := prog_3_method_11_code
def yX1_floatingAt : MethodName := ⟨RX1, "floatingAt", "(II)I"⟩
abbrev cX1_caughtAt : ByteArray := prog_3_method_12_code
def yX1_caughtAt : MethodName := ⟨RX1, "caughtAt", "(II)I"⟩
abbrev cX1_tally : ByteArray := prog_3_method_13_code
def yX1_tally : MethodName := ⟨RX1, "tally", "(I)I"⟩
abbrev cX1_share : ByteArray := prog_3_method_14_code
def yX1_share : MethodName := ⟨RX1, "share", "(II)I"⟩
abbrev cX1_passMinutes : ByteArray := prog_3_method_15_code
def yX1_passMinutes : MethodName := ⟨RX1, "passMinutes", "(ILLanternWeirs$Bed;)V"⟩
abbrev cX1_lineUp : ByteArray := prog_3_method_16_code
def yX1_lineUp : MethodName := ⟨RX1, "lineUp", "()I"⟩
abbrev cX1_drift : ByteArray := prog_3_method_17_code
def yX1_drift : MethodName := ⟨RX1, "drift", "(ILLanternWeirs$Bed;)V"⟩
abbrev cX1_catchesAhead : ByteArray := prog_3_method_18_code
def yX1_catchesAhead : MethodName := ⟨RX1, "catchesAhead", "(I)Z"⟩
abbrev cX1_meetWeir : ByteArray := prog_3_method_19_code
def yX1_meetWeir : MethodName := ⟨RX1, "meetWeir", "(II)V"⟩
abbrev cX1_leave : ByteArray := prog_3_method_20_code
def yX1_leave : MethodName := ⟨RX1, "leave", "(II)V"⟩
abbrev cX1_useWax : ByteArray := prog_3_method_21_code
def yX1_useWax : MethodName := ⟨RX1, "useWax", "()V"⟩
abbrev cX1_crowdBy : ByteArray := prog_3_method_22_code
def yX1_crowdBy : MethodName := ⟨RX1, "crowdBy", "(II)V"⟩
abbrev cX1_cell : ByteArray := prog_3_method_23_code
def yX1_cell : MethodName := ⟨RX1, "cell", "(III)I"⟩
def RX2 : String := "LanternWeirs$Row"
def TX2 : u_T := fun k => match k with
  | _ => ("LanternWeirs$Row", "cells", "[I", true)
def tyX2 : Nat → FieldType := fun k => match k with
  | _ => .array .int
abbrev wsX20 : List Cond := u_ws RX2 TX2 1
theorem nmX2 : ∀ a, a < 1 → ∀ b, b < 1 → a ≠ b → (TX2 a).2.1 ≠ (TX2 b).2.1 := by decide +kernel
theorem tyX2_ok : ∀ k, k < 1 → parseFieldDescriptor (TX2 k).2.2.1 = some (tyX2 k) := by decide +kernel
abbrev cX2_init : ByteArray := prog_4_method_1_code
def yX2_init : MethodName := ⟨RX2, "<init>", "(I)V"⟩
abbrev cX2_get : ByteArray := prog_4_method_2_code
def yX2_get : MethodName := ⟨RX2, "get", "(I)I"⟩
abbrev cX2_put : ByteArray := prog_4_method_3_code
def yX2_put : MethodName := ⟨RX2, "put", "(II)V"⟩
abbrev cX2_copy : ByteArray := prog_4_method_4_code
def yX2_copy : MethodName := ⟨RX2, "copy", "(LLanternWeirs$Row;)V"⟩
def RX3 : String := "LanternWeirs"
def TX3 : u_T := fun k => match k with
  | 0 => ("LanternWeirs", "bed", "LLanternWeirs$Bed;", true)
  | 1 => ("LanternWeirs", "fleet", "LLanternWeirs$Fleet;", true)
  | _ => ("LanternWeirs", "dream", "LLanternWeirs$Fleet;", true)
def tyX3 : Nat → FieldType := fun k => match k with
  | 0 => .object "LanternWeirs$Bed"
  | 1 => .object "LanternWeirs$Fleet"
  | _ => .object "LanternWeirs$Fleet"
abbrev wsX30 : List Cond := u_ws RX3 TX3 3
theorem nmX3 : ∀ a, a < 3 → ∀ b, b < 3 → a ≠ b → (TX3 a).2.1 ≠ (TX3 b).2.1 := by decide +kernel
theorem tyX3_ok : ∀ k, k < 3 → parseFieldDescriptor (TX3 k).2.2.1 = some (tyX3 k) := by decide +kernel
abbrev cX3_init : ByteArray := prog_1_method_1_code
def yX3_init : MethodName := ⟨RX3, "<init>", "()V"⟩
abbrev cX3_setCurrent : ByteArray := prog_1_method_2_code
def yX3_setCurrent : MethodName := ⟨RX3, "setCurrent", "(II)I"⟩
abbrev cX3_weir : ByteArray := prog_1_method_3_code
def yX3_weir : MethodName := ⟨RX3, "weir", "(II)I"⟩
abbrev cX3_net : ByteArray := prog_1_method_4_code
def yX3_net : MethodName := ⟨RX3, "net", "(II)I"⟩
abbrev cX3_river : ByteArray := prog_1_method_5_code
def yX3_river : MethodName := ⟨RX3, "river", "(III)I"⟩
abbrev cX3_launch : ByteArray := prog_1_method_6_code
def yX3_launch : MethodName := ⟨RX3, "launch", "(IIII)I"⟩
abbrev cX3_push : ByteArray := prog_1_method_7_code
def yX3_push : MethodName := ⟨RX3, "push", "(II)I"⟩
abbrev cX3_light : ByteArray := prog_1_method_8_code
def yX3_light : MethodName := ⟨RX3, "light", "(I)I"⟩
abbrev cX3_blow : ByteArray := prog_1_method_9_code
def yX3_blow : MethodName := ⟨RX3, "blow", "(I)I"⟩
abbrev cX3_told : ByteArray := prog_1_method_10_code
def yX3_told : MethodName := ⟨RX3, "told", "(II)I"⟩
abbrev cX3_next : ByteArray := prog_1_method_11_code
def yX3_next : MethodName := ⟨RX3, "next", "(I)I"⟩
abbrev cX3_count : ByteArray := prog_1_method_12_code
def yX3_count : MethodName := ⟨RX3, "count", "(I)I"⟩
abbrev cX3_pass : ByteArray := prog_1_method_13_code
def yX3_pass : MethodName := ⟨RX3, "pass", "(I)I"⟩
abbrev cX3_burns : ByteArray := prog_1_method_14_code
def yX3_burns : MethodName := ⟨RX3, "burns", "(I)I"⟩
abbrev cX3_foresee : ByteArray := prog_1_method_15_code
def yX3_foresee : MethodName := ⟨RX3, "foresee", "(II)I"⟩
abbrev cX3_advise : ByteArray := prog_1_method_16_code
def yX3_advise : MethodName := ⟨RX3, "advise", "(I)I"⟩
abbrev cX3_mean : ByteArray := prog_1_method_17_code
def yX3_mean : MethodName := ⟨RX3, "mean", "()D"⟩
abbrev cX3_digest : ByteArray := prog_1_method_18_code
def yX3_digest : MethodName := ⟨RX3, "digest", "()J"⟩
abbrev cX3_isWithin : ByteArray := prog_1_method_19_code
def yX3_isWithin : MethodName := ⟨RX3, "isWithin", "(III)Z"⟩
abbrev cX3_isLane : ByteArray := prog_1_method_20_code
def yX3_isLane : MethodName := ⟨RX3, "isLane", "(I)Z"⟩
abbrev cX3_isPlace : ByteArray := prog_1_method_21_code
def yX3_isPlace : MethodName := ⟨RX3, "isPlace", "(I)Z"⟩
abbrev cX3_isFrame : ByteArray := prog_1_method_22_code
def yX3_isFrame : MethodName := ⟨RX3, "isFrame", "(I)Z"⟩
abbrev cX3_waxOf : ByteArray := prog_1_method_23_code
def yX3_waxOf : MethodName := ⟨RX3, "waxOf", "(I)I"⟩
abbrev cX3_sprayTakenBy : ByteArray := prog_1_method_24_code
def yX3_sprayTakenBy : MethodName := ⟨RX3, "sprayTakenBy", "(I)I"⟩
abbrev cX3_riverFact : ByteArray := prog_1_method_25_code
def yX3_riverFact : MethodName := ⟨RX3, "riverFact", "(III)I"⟩
abbrev cX3_nextWeir : ByteArray := prog_1_method_26_code
def yX3_nextWeir : MethodName := ⟨RX3, "nextWeir", "(I)I"⟩
abbrev cX3_counted : ByteArray := prog_1_method_27_code
def yX3_counted : MethodName := ⟨RX3, "counted", "(I)I"⟩
abbrev cX3_minutesToNet : ByteArray := prog_1_method_28_code
def yX3_minutesToNet : MethodName := ⟨RX3, "minutesToNet", "(II)I"⟩
def RX4 : String := "LanternWeirsModel$State"
def TX4 : u_T := fun k => match k with
  | 0 => ("LanternWeirsModel$State", "minute", "I", false)
  | 1 => ("LanternWeirsModel$State", "lanterns", "I", false)
  | 2 => ("LanternWeirsModel$State", "frame", "[I", true)
  | 3 => ("LanternWeirsModel$State", "wish", "[I", true)
  | 4 => ("LanternWeirsModel$State", "lane", "[I", true)
  | 5 => ("LanternWeirsModel$State", "place", "[I", true)
  | 6 => ("LanternWeirsModel$State", "wax", "[I", true)
  | 7 => ("LanternWeirsModel$State", "wet", "[I", true)
  | 8 => ("LanternWeirsModel$State", "burns", "[I", true)
  | 9 => ("LanternWeirsModel$State", "state", "[I", true)
  | 10 => ("LanternWeirsModel$State", "ended", "[I", true)
  | 11 => ("LanternWeirsModel$State", "order", "[I", true)
  | _ => ("LanternWeirsModel$State", "this$0", "LLanternWeirsModel;", true)
def tyX4 : Nat → FieldType := fun k => match k with
  | 0 => .int
  | 1 => .int
  | 2 => .array .int
  | 3 => .array .int
  | 4 => .array .int
  | 5 => .array .int
  | 6 => .array .int
  | 7 => .array .int
  | 8 => .array .int
  | 9 => .array .int
  | 10 => .array .int
  | 11 => .array .int
  | _ => .object "LanternWeirsModel"
abbrev wsX40 : List Cond := u_ws RX4 TX4 13
theorem nmX4 : ∀ a, a < 13 → ∀ b, b < 13 → a ≠ b → (TX4 a).2.1 ≠ (TX4 b).2.1 := by decide +kernel
theorem tyX4_ok : ∀ k, k < 13 → parseFieldDescriptor (TX4 k).2.2.1 = some (tyX4 k) := by decide +kernel
abbrev cX4_init : ByteArray := prog_7_method_1_code
def yX4_init : MethodName := ⟨RX4, "<init>", "(LLanternWeirsModel;)V"⟩
abbrev cX4_copy : ByteArray := prog_7_method_2_code
def yX4_copy : MethodName := ⟨RX4, "copy", "([I[I)V"⟩
abbrev cX4_become : ByteArray := prog_7_method_3_code
def yX4_become : MethodName := ⟨RX4, "become", "(LLanternWeirsModel$State;)V"⟩
abbrev cX4_launch : ByteArray := prog_7_method_4_code
def yX4_launch : MethodName := ⟨RX4, "launch", "(IIII)I"⟩
abbrev cX4_isSoaked : ByteArray := prog_7_method_5_code
def yX4_isSoaked : MethodName := ⟨RX4, "isSoaked", "(I)Z"⟩
abbrev cX4_at : ByteArray := prog_7_method_6_code
def yX4_at : MethodName := ⟨RX4, "at", "(III)I"⟩
abbrev cX4_isAhead : ByteArray := prog_7_method_7_code
def yX4_isAhead : MethodName := ⟨RX4, "isAhead", "(II)Z"⟩
abbrev cX4_sort : ByteArray := prog_7_method_8_code
def yX4_sort : MethodName := ⟨RX4, "sort", "()I"⟩
abbrev cX4_isCaught : ByteArray := prog_7_method_9_code
def yX4_isCaught : MethodName := ⟨RX4, "isCaught", "(I)Z"⟩
abbrev cX4_end : ByteArray := prog_7_method_10_code
def yX4_end : MethodName := ⟨RX4, "end", "(II)V"⟩
abbrev cX4_drift : ByteArray := prog_7_method_11_code
def yX4_drift : MethodName := ⟨RX4, "drift", "(I)V"⟩
abbrev cX4_pass : ByteArray := prog_7_method_12_code
def yX4_pass : MethodName := ⟨RX4, "pass", "(I)V"⟩
abbrev cX4_pass_ : ByteArray := prog_7_method_13_code
def yX4_pass_ : MethodName := ⟨RX4, "pass", "()V"⟩
abbrev cX4_counted : ByteArray := prog_7_method_14_code
def yX4_counted : MethodName := ⟨RX4, "counted", "(I)I"⟩
def RX5 : String := "LanternWeirsModel"
def TX5 : u_T := fun k => match k with
  | 0 => ("LanternWeirsModel", "thrown", "I", false)
  | 1 => ("LanternWeirsModel", "current", "[I", true)
  | 2 => ("LanternWeirsModel", "weirs", "I", false)
  | 3 => ("LanternWeirsModel", "spray", "[I", true)
  | 4 => ("LanternWeirsModel", "nets", "I", false)
  | 5 => ("LanternWeirsModel", "net", "[I", true)
  | 6 => ("LanternWeirsModel", "s", "LLanternWeirsModel$State;", true)
  | _ => ("LanternWeirsModel", "ahead", "LLanternWeirsModel$State;", true)
def tyX5 : Nat → FieldType := fun k => match k with
  | 0 => .int
  | 1 => .array .int
  | 2 => .int
  | 3 => .array .int
  | 4 => .int
  | 5 => .array .int
  | 6 => .object "LanternWeirsModel$State"
  | _ => .object "LanternWeirsModel$State"
abbrev wsX50 : List Cond := u_ws RX5 TX5 8
theorem nmX5 : ∀ a, a < 8 → ∀ b, b < 8 → a ≠ b → (TX5 a).2.1 ≠ (TX5 b).2.1 := by decide +kernel
theorem tyX5_ok : ∀ k, k < 8 → parseFieldDescriptor (TX5 k).2.2.1 = some (tyX5 k) := by decide +kernel
abbrev cX5_init : ByteArray := prog_6_method_1_code
def yX5_init : MethodName := ⟨RX5, "<init>", "()V"⟩
abbrev cX5_thrown : ByteArray := prog_6_method_2_code
def yX5_thrown : MethodName := ⟨RX5, "thrown", "()I"⟩
abbrev cX5_no : ByteArray := prog_6_method_3_code
def yX5_no : MethodName := ⟨RX5, "no", "(I)I"⟩
abbrev cX5_isIn : ByteArray := prog_6_method_4_code
def yX5_isIn : MethodName := ⟨RX5, "isIn", "(III)Z"⟩
abbrev cX5_isLane : ByteArray := prog_6_method_5_code
def yX5_isLane : MethodName := ⟨RX5, "isLane", "(I)Z"⟩
abbrev cX5_isPlace : ByteArray := prog_6_method_6_code
def yX5_isPlace : MethodName := ⟨RX5, "isPlace", "(I)Z"⟩
abbrev cX5_isLantern : ByteArray := prog_6_method_7_code
def yX5_isLantern : MethodName := ⟨RX5, "isLantern", "(I)Z"⟩
abbrev cX5_setCurrent : ByteArray := prog_6_method_8_code
def yX5_setCurrent : MethodName := ⟨RX5, "setCurrent", "(II)I"⟩
abbrev cX5_weir : ByteArray := prog_6_method_9_code
def yX5_weir : MethodName := ⟨RX5, "weir", "(II)I"⟩
abbrev cX5_net : ByteArray := prog_6_method_10_code
def yX5_net : MethodName := ⟨RX5, "net", "(II)I"⟩
abbrev cX5_riverTold : ByteArray := prog_6_method_11_code
def yX5_riverTold : MethodName := ⟨RX5, "riverTold", "(III)I"⟩
abbrev cX5_river : ByteArray := prog_6_method_12_code
def yX5_river : MethodName := ⟨RX5, "river", "(III)I"⟩
abbrev cX5_launch : ByteArray := prog_6_method_13_code
def yX5_launch : MethodName := ⟨RX5, "launch", "(IIII)I"⟩
abbrev cX5_push : ByteArray := prog_6_method_14_code
def yX5_push : MethodName := ⟨RX5, "push", "(II)I"⟩
abbrev cX5_light : ByteArray := prog_6_method_15_code
def yX5_light : MethodName := ⟨RX5, "light", "(I)I"⟩
abbrev cX5_blow : ByteArray := prog_6_method_16_code
def yX5_blow : MethodName := ⟨RX5, "blow", "(I)I"⟩
abbrev cX5_lanternTold : ByteArray := prog_6_method_17_code
def yX5_lanternTold : MethodName := ⟨RX5, "lanternTold", "(II)I"⟩
abbrev cX5_told : ByteArray := prog_6_method_18_code
def yX5_told : MethodName := ⟨RX5, "told", "(II)I"⟩
abbrev cX5_nextOf : ByteArray := prog_6_method_19_code
def yX5_nextOf : MethodName := ⟨RX5, "nextOf", "(I)I"⟩
abbrev cX5_next : ByteArray := prog_6_method_20_code
def yX5_next : MethodName := ⟨RX5, "next", "(I)I"⟩
abbrev cX5_count : ByteArray := prog_6_method_21_code
def yX5_count : MethodName := ⟨RX5, "count", "(I)I"⟩
abbrev cX5_pass : ByteArray := prog_6_method_22_code
def yX5_pass : MethodName := ⟨RX5, "pass", "(I)I"⟩
abbrev cX5_burns : ByteArray := prog_6_method_23_code
def yX5_burns : MethodName := ⟨RX5, "burns", "(I)I"⟩
abbrev cX5_foresee : ByteArray := prog_6_method_24_code
def yX5_foresee : MethodName := ⟨RX5, "foresee", "(II)I"⟩
abbrev cX5_comes : ByteArray := prog_6_method_25_code
def yX5_comes : MethodName := ⟨RX5, "comes", "(II)I"⟩
abbrev cX5_advise : ByteArray := prog_6_method_26_code
def yX5_advise : MethodName := ⟨RX5, "advise", "(I)I"⟩
abbrev cX5_mean : ByteArray := prog_6_method_27_code
def yX5_mean : MethodName := ⟨RX5, "mean", "()D"⟩
abbrev cX5_digest : ByteArray := prog_6_method_28_code
def yX5_digest : MethodName := ⟨RX5, "digest", "()J"⟩
def RJ9 : String := "java/lang/Math"
def TJ9 : u_T := fun k => match k with
  | _ => ("", "", "", false)
def tyJ9 : Nat → FieldType := fun k => match k with
  | _ => .int
abbrev wsJ90 : List Cond := u_ws RJ9 TJ9 0
theorem nmJ9 : ∀ a, a < 0 → ∀ b, b < 0 → a ≠ b → (TJ9 a).2.1 ≠ (TJ9 b).2.1 := by decide +kernel
theorem tyJ9_ok : ∀ k, k < 0 → parseFieldDescriptor (TJ9 k).2.2.1 = some (tyJ9 k) := by decide +kernel
abbrev cJ9_max_7cf53 : ByteArray := prog_12_method_65_code
def yJ9_max_7cf53 : MethodName := ⟨RJ9, "max", "(II)I"⟩
def RJ0 : String := "java/lang/String"
def TJ0 : u_T := fun k => match k with
  | _ => ("", "", "", false)
def tyJ0 : Nat → FieldType := fun k => match k with
  | _ => .int
abbrev wsJ00 : List Cond := u_ws RJ0 TJ0 0
theorem nmJ0 : ∀ a, a < 0 → ∀ b, b < 0 → a ≠ b → (TJ0 a).2.1 ≠ (TJ0 b).2.1 := by decide +kernel
theorem tyJ0_ok : ∀ k, k < 0 → parseFieldDescriptor (TJ0 k).2.2.1 = some (tyJ0 k) := by decide +kernel
def RJ10 : String := "java/lang/System"
def TJ10 : u_T := fun k => match k with
  | _ => ("", "", "", false)
def tyJ10 : Nat → FieldType := fun k => match k with
  | _ => .int
abbrev wsJ100 : List Cond := u_ws RJ10 TJ10 0
theorem nmJ10 : ∀ a, a < 0 → ∀ b, b < 0 → a ≠ b → (TJ10 a).2.1 ≠ (TJ10 b).2.1 := by decide +kernel
theorem tyJ10_ok : ∀ k, k < 0 → parseFieldDescriptor (TJ10 k).2.2.1 = some (tyJ10 k) := by decide +kernel
def RL : String := "LanternWeirsLaw"
abbrev cL_setCurrent : ByteArray := method_3_code
def yL_setCurrent : MethodName := ⟨RL, "setCurrent", "(LLanternWeirs;II[J)I"⟩
abbrev cL_weir : ByteArray := method_4_code
def yL_weir : MethodName := ⟨RL, "weir", "(LLanternWeirs;II[J)I"⟩
abbrev cL_net : ByteArray := method_5_code
def yL_net : MethodName := ⟨RL, "net", "(LLanternWeirs;II[J)I"⟩
abbrev cL_river : ByteArray := method_6_code
def yL_river : MethodName := ⟨RL, "river", "(LLanternWeirs;III[J)I"⟩
abbrev cL_launch : ByteArray := method_7_code
def yL_launch : MethodName := ⟨RL, "launch", "(LLanternWeirs;IIII[J)I"⟩
abbrev cL_push : ByteArray := method_8_code
def yL_push : MethodName := ⟨RL, "push", "(LLanternWeirs;II[J)I"⟩
abbrev cL_light : ByteArray := method_9_code
def yL_light : MethodName := ⟨RL, "light", "(LLanternWeirs;I[J)I"⟩
abbrev cL_blow : ByteArray := method_10_code
def yL_blow : MethodName := ⟨RL, "blow", "(LLanternWeirs;I[J)I"⟩
abbrev cL_told : ByteArray := method_11_code
def yL_told : MethodName := ⟨RL, "told", "(LLanternWeirs;II[J)I"⟩
abbrev cL_next : ByteArray := method_12_code
def yL_next : MethodName := ⟨RL, "next", "(LLanternWeirs;I[J)I"⟩
abbrev cL_count : ByteArray := method_13_code
def yL_count : MethodName := ⟨RL, "count", "(LLanternWeirs;I[J)I"⟩
abbrev cL_pass : ByteArray := method_14_code
def yL_pass : MethodName := ⟨RL, "pass", "(LLanternWeirs;I[J)I"⟩
abbrev cL_burns : ByteArray := method_15_code
def yL_burns : MethodName := ⟨RL, "burns", "(LLanternWeirs;I[J)I"⟩
abbrev cL_foresee : ByteArray := method_16_code
def yL_foresee : MethodName := ⟨RL, "foresee", "(LLanternWeirs;II[J)I"⟩
abbrev cL_advise : ByteArray := method_17_code
def yL_advise : MethodName := ⟨RL, "advise", "(LLanternWeirs;I[J)I"⟩
abbrev cL_law : ByteArray := code
def yL_law : MethodName := ⟨RL, "law", "([I)Z"⟩
def wsX2_init : List Cond := .code yX2_init cX2_init 2 none :: ([.methodLink RX2 1 objectInit, .instanceMethod objectInit, .code objectInit ⟨#[0xb1]⟩ 1 none, .arrayClass .int, .fieldLink RX2 7 "LanternWeirs$Row" "cells" "[I"] ++ wsX20)
def wsX2_put : List Cond := .code yX2_put cX2_put 3 none :: ([.fieldLink RX2 7 "LanternWeirs$Row" "cells" "[I"] ++ wsX20)
def wsX0_init : List Cond := .code yX0_init cX0_init 1 none :: ([.methodLink RX0 3 objectInit, .instanceMethod objectInit, .code objectInit ⟨#[0xb1]⟩ 1 none, .classLink RX0 9 RX2, .instantiable RX2 1, .initialized RX2, .fieldLink RX0 14 "LanternWeirs$Bed" "currents" "LLanternWeirs$Row;", .fieldLink RX0 20 "LanternWeirs$Bed" "sprays" "LLanternWeirs$Row;", .fieldLink RX0 23 "LanternWeirs$Bed" "nets" "LLanternWeirs$Row;", .methodLink RX0 11 yX2_init, .instanceMethod yX2_init, .code yX2_init cX2_init 2 none, .methodLink RX2 1 objectInit, .arrayClass .int, .fieldLink RX2 7 "LanternWeirs$Row" "cells" "[I", .methodLink RX0 26 yX2_put, .instanceMethod yX2_put, .selects RX2 yX2_put yX2_put, .code yX2_put cX2_put 3 none] ++ wsX20 ++ wsX00)
def wsX0_addWeir : List Cond := .code yX0_addWeir cX0_addWeir 3 (some .int) :: ([.fieldLink RX0 20 "LanternWeirs$Bed" "sprays" "LLanternWeirs$Row;", .fieldLink RX0 30 "LanternWeirs$Bed" "weirs" "I", .methodLink RX0 26 yX2_put, .instanceMethod yX2_put, .selects RX2 yX2_put yX2_put, .initialized RX2, .code yX2_put cX2_put 3 none, .fieldLink RX2 7 "LanternWeirs$Row" "cells" "[I"] ++ wsX00 ++ wsX20)
def wsX0_addNet : List Cond := .code yX0_addNet cX0_addNet 3 (some .int) :: ([.fieldLink RX0 23 "LanternWeirs$Bed" "nets" "LLanternWeirs$Row;", .fieldLink RX0 34 "LanternWeirs$Bed" "netCount" "I", .methodLink RX0 26 yX2_put, .instanceMethod yX2_put, .selects RX2 yX2_put yX2_put, .initialized RX2, .code yX2_put cX2_put 3 none, .fieldLink RX2 7 "LanternWeirs$Row" "cells" "[I"] ++ wsX00 ++ wsX20)
def wsX2_get : List Cond := .code yX2_get cX2_get 2 (some .int) :: ([.fieldLink RX2 7 "LanternWeirs$Row" "cells" "[I"] ++ wsX20)
def wsX0_hasNet : List Cond := .code yX0_hasNet cX0_hasNet 3 (some .boolean) :: ([.fieldLink RX0 23 "LanternWeirs$Bed" "nets" "LLanternWeirs$Row;", .methodLink RX0 37 yX2_get, .instanceMethod yX2_get, .selects RX2 yX2_get yX2_get, .initialized RX2, .code yX2_get cX2_get 2 (some .int), .fieldLink RX2 7 "LanternWeirs$Row" "cells" "[I"] ++ wsX00 ++ wsX20)
def wsX1_init : List Cond := .code yX1_init cX1_init 1 none :: ([.methodLink RX1 3 objectInit, .instanceMethod objectInit, .code objectInit ⟨#[0xb1]⟩ 1 none, .classLink RX1 9 RX2, .instantiable RX2 1, .initialized RX2, .fieldLink RX1 16 "LanternWeirs$Fleet" "frames" "LLanternWeirs$Row;", .fieldLink RX1 20 "LanternWeirs$Fleet" "wishes" "LLanternWeirs$Row;", .fieldLink RX1 23 "LanternWeirs$Fleet" "lanes" "LLanternWeirs$Row;", .fieldLink RX1 26 "LanternWeirs$Fleet" "places" "LLanternWeirs$Row;", .fieldLink RX1 29 "LanternWeirs$Fleet" "waxes" "LLanternWeirs$Row;", .fieldLink RX1 32 "LanternWeirs$Fleet" "wets" "LLanternWeirs$Row;", .fieldLink RX1 35 "LanternWeirs$Fleet" "burning" "LLanternWeirs$Row;", .fieldLink RX1 38 "LanternWeirs$Fleet" "states" "LLanternWeirs$Row;", .fieldLink RX1 41 "LanternWeirs$Fleet" "ends" "LLanternWeirs$Row;", .fieldLink RX1 44 "LanternWeirs$Fleet" "crowd" "LLanternWeirs$Row;", .fieldLink RX1 47 "LanternWeirs$Fleet" "queue" "LLanternWeirs$Row;", .methodLink RX1 13 yX2_init, .instanceMethod yX2_init, .code yX2_init cX2_init 2 none, .methodLink RX2 1 objectInit, .arrayClass .int, .fieldLink RX2 7 "LanternWeirs$Row" "cells" "[I"] ++ wsX20 ++ wsX10)
def wsX2_copy : List Cond := .code yX2_copy cX2_copy 3 none :: ([.fieldLink RX2 7 "LanternWeirs$Row" "cells" "[I", .methodLink RX2 13 yX2_get, .instanceMethod yX2_get, .selects RX2 yX2_get yX2_get, .initialized RX2, .code yX2_get cX2_get 2 (some .int)] ++ wsX20)
def wsX1_copy : List Cond := .code yX1_copy cX1_copy 2 none :: ([.fieldLink RX1 16 "LanternWeirs$Fleet" "frames" "LLanternWeirs$Row;", .fieldLink RX1 20 "LanternWeirs$Fleet" "wishes" "LLanternWeirs$Row;", .fieldLink RX1 23 "LanternWeirs$Fleet" "lanes" "LLanternWeirs$Row;", .fieldLink RX1 26 "LanternWeirs$Fleet" "places" "LLanternWeirs$Row;", .fieldLink RX1 29 "LanternWeirs$Fleet" "waxes" "LLanternWeirs$Row;", .fieldLink RX1 32 "LanternWeirs$Fleet" "wets" "LLanternWeirs$Row;", .fieldLink RX1 35 "LanternWeirs$Fleet" "burning" "LLanternWeirs$Row;", .fieldLink RX1 38 "LanternWeirs$Fleet" "states" "LLanternWeirs$Row;", .fieldLink RX1 41 "LanternWeirs$Fleet" "ends" "LLanternWeirs$Row;", .fieldLink RX1 44 "LanternWeirs$Fleet" "crowd" "LLanternWeirs$Row;", .fieldLink RX1 54 "LanternWeirs$Fleet" "size" "I", .fieldLink RX1 58 "LanternWeirs$Fleet" "minute" "I", .methodLink RX1 50 yX2_copy, .instanceMethod yX2_copy, .selects RX2 yX2_copy yX2_copy, .initialized RX2, .code yX2_copy cX2_copy 3 none, .fieldLink RX2 7 "LanternWeirs$Row" "cells" "[I", .methodLink RX2 13 yX2_get, .instanceMethod yX2_get, .selects RX2 yX2_get yX2_get, .code yX2_get cX2_get 2 (some .int)] ++ wsX10 ++ wsX20)
def wsX3_waxOf : List Cond := .code yX3_waxOf cX3_waxOf 1 (some .int) :: ([])
def wsX1_cell : List Cond := .code yX1_cell cX1_cell 3 (some .int) :: ([])
def wsX1_crowdBy : List Cond := .code yX1_crowdBy cX1_crowdBy 4 none :: ([.fieldLink RX1 23 "LanternWeirs$Fleet" "lanes" "LLanternWeirs$Row;", .fieldLink RX1 26 "LanternWeirs$Fleet" "places" "LLanternWeirs$Row;", .fieldLink RX1 16 "LanternWeirs$Fleet" "frames" "LLanternWeirs$Row;", .fieldLink RX1 44 "LanternWeirs$Fleet" "crowd" "LLanternWeirs$Row;", .methodLink RX1 80 yX2_get, .instanceMethod yX2_get, .selects RX2 yX2_get yX2_get, .initialized RX2, .code yX2_get cX2_get 2 (some .int), .fieldLink RX2 7 "LanternWeirs$Row" "cells" "[I", .methodLink RX1 92 yX1_cell, .static yX1_cell, .initialized RX1, .code yX1_cell cX1_cell 3 (some .int), .methodLink RX1 61 yX2_put, .instanceMethod yX2_put, .selects RX2 yX2_put yX2_put, .code yX2_put cX2_put 3 none] ++ wsX10 ++ wsX20)
def wsX1_add_r1 : List Cond := [Cond.fieldLink RX1 54 "LanternWeirs$Fleet" "size" "I", Cond.fieldLink RX1 16 "LanternWeirs$Fleet" "frames" "LLanternWeirs$Row;", Cond.fieldLink RX1 20 "LanternWeirs$Fleet" "wishes" "LLanternWeirs$Row;", Cond.fieldLink RX1 23 "LanternWeirs$Fleet" "lanes" "LLanternWeirs$Row;", Cond.fieldLink RX1 26 "LanternWeirs$Fleet" "places" "LLanternWeirs$Row;", Cond.fieldLink RX1 29 "LanternWeirs$Fleet" "waxes" "LLanternWeirs$Row;", Cond.fieldLink RX1 32 "LanternWeirs$Fleet" "wets" "LLanternWeirs$Row;", Cond.fieldLink RX1 35 "LanternWeirs$Fleet" "burning" "LLanternWeirs$Row;", Cond.fieldLink RX1 38 "LanternWeirs$Fleet" "states" "LLanternWeirs$Row;", Cond.fieldLink RX1 41 "LanternWeirs$Fleet" "ends" "LLanternWeirs$Row;", Cond.methodLink RX1 61 yX2_put, Cond.instanceMethod yX2_put, Cond.selects RX2 yX2_put yX2_put, Cond.initialized RX2, Cond.code yX2_put cX2_put 3 none, Cond.fieldLink RX2 7 "LanternWeirs$Row" "cells" "[I", Cond.static yX3_waxOf, Cond.initialized RX3, Cond.code yX3_waxOf cX3_waxOf 1 (some .int), Cond.methodLink RX1 69 yX1_crowdBy, Cond.instanceMethod yX1_crowdBy, Cond.selects RX1 yX1_crowdBy yX1_crowdBy, Cond.initialized RX1, Cond.code yX1_crowdBy cX1_crowdBy 4 none]
def wsX1_add_r2 : List Cond := [Cond.fieldLink RX1 44 "LanternWeirs$Fleet" "crowd" "LLanternWeirs$Row;", Cond.methodLink RX1 80 yX2_get, Cond.instanceMethod yX2_get, Cond.selects RX2 yX2_get yX2_get, Cond.code yX2_get cX2_get 2 (some .int), Cond.methodLink RX1 92 yX1_cell, Cond.static yX1_cell, Cond.code yX1_cell cX1_cell 3 (some .int)]
def wsX1_add : List Cond := .code yX1_add cX1_add 6 (some .int) :: ((wsX1_add_r1 ++ wsX1_add_r2) ++ wsX10 ++ wsX20)
def wsX3_isWithin : List Cond := .code yX3_isWithin cX3_isWithin 3 (some .boolean) :: ([])
def wsX1_has : List Cond := .code yX1_has cX1_has 2 (some .boolean) :: ([.fieldLink RX1 54 "LanternWeirs$Fleet" "size" "I", .static yX3_isWithin, .initialized RX3, .code yX3_isWithin cX3_isWithin 3 (some .boolean)] ++ wsX10)
def wsX1_isAfloat : List Cond := .code yX1_isAfloat cX1_isAfloat 2 (some .boolean) :: ([.fieldLink RX1 38 "LanternWeirs$Fleet" "states" "LLanternWeirs$Row;", .methodLink RX1 76 yX1_has, .instanceMethod yX1_has, .selects RX1 yX1_has yX1_has, .initialized RX1, .code yX1_has cX1_has 2 (some .boolean), .fieldLink RX1 54 "LanternWeirs$Fleet" "size" "I", .static yX3_isWithin, .initialized RX3, .code yX3_isWithin cX3_isWithin 3 (some .boolean), .methodLink RX1 80 yX2_get, .instanceMethod yX2_get, .selects RX2 yX2_get yX2_get, .initialized RX2, .code yX2_get cX2_get 2 (some .int), .fieldLink RX2 7 "LanternWeirs$Row" "cells" "[I"] ++ wsX10 ++ wsX20)
def wsX1_isBurning : List Cond := .code yX1_isBurning cX1_isBurning 2 (some .boolean) :: ([.fieldLink RX1 35 "LanternWeirs$Fleet" "burning" "LLanternWeirs$Row;", .methodLink RX1 76 yX1_has, .instanceMethod yX1_has, .selects RX1 yX1_has yX1_has, .initialized RX1, .code yX1_has cX1_has 2 (some .boolean), .fieldLink RX1 54 "LanternWeirs$Fleet" "size" "I", .static yX3_isWithin, .initialized RX3, .code yX3_isWithin cX3_isWithin 3 (some .boolean), .methodLink RX1 80 yX2_get, .instanceMethod yX2_get, .selects RX2 yX2_get yX2_get, .initialized RX2, .code yX2_get cX2_get 2 (some .int), .fieldLink RX2 7 "LanternWeirs$Row" "cells" "[I"] ++ wsX10 ++ wsX20)
def wsX3_sprayTakenBy : List Cond := .code yX3_sprayTakenBy cX3_sprayTakenBy 1 (some .int) :: ([])
def wsX1_isSoaked : List Cond := .code yX1_isSoaked cX1_isSoaked 2 (some .boolean) :: ([.fieldLink RX1 32 "LanternWeirs$Fleet" "wets" "LLanternWeirs$Row;", .fieldLink RX1 16 "LanternWeirs$Fleet" "frames" "LLanternWeirs$Row;", .methodLink RX1 80 yX2_get, .instanceMethod yX2_get, .selects RX2 yX2_get yX2_get, .initialized RX2, .code yX2_get cX2_get 2 (some .int), .fieldLink RX2 7 "LanternWeirs$Row" "cells" "[I", .static yX3_sprayTakenBy, .initialized RX3, .code yX3_sprayTakenBy cX3_sprayTakenBy 1 (some .int)] ++ wsX10 ++ wsX20)
def wsX1_canBeLit_r1 : List Cond := [Cond.fieldLink RX1 29 "LanternWeirs$Fleet" "waxes" "LLanternWeirs$Row;", Cond.methodLink RX1 86 yX1_isBurning, Cond.instanceMethod yX1_isBurning, Cond.selects RX1 yX1_isBurning yX1_isBurning, Cond.initialized RX1, Cond.code yX1_isBurning cX1_isBurning 2 (some .boolean), Cond.fieldLink RX1 35 "LanternWeirs$Fleet" "burning" "LLanternWeirs$Row;", Cond.methodLink RX1 76 yX1_has, Cond.instanceMethod yX1_has, Cond.selects RX1 yX1_has yX1_has, Cond.code yX1_has cX1_has 2 (some .boolean), Cond.fieldLink RX1 54 "LanternWeirs$Fleet" "size" "I", Cond.static yX3_isWithin, Cond.initialized RX3, Cond.code yX3_isWithin cX3_isWithin 3 (some .boolean), Cond.methodLink RX1 80 yX2_get, Cond.instanceMethod yX2_get, Cond.selects RX2 yX2_get yX2_get, Cond.initialized RX2, Cond.code yX2_get cX2_get 2 (some .int), Cond.fieldLink RX2 7 "LanternWeirs$Row" "cells" "[I", Cond.methodLink RX1 89 yX1_isSoaked, Cond.instanceMethod yX1_isSoaked, Cond.selects RX1 yX1_isSoaked yX1_isSoaked]
def wsX1_canBeLit_r2 : List Cond := [Cond.code yX1_isSoaked cX1_isSoaked 2 (some .boolean), Cond.fieldLink RX1 32 "LanternWeirs$Fleet" "wets" "LLanternWeirs$Row;", Cond.fieldLink RX1 16 "LanternWeirs$Fleet" "frames" "LLanternWeirs$Row;", Cond.static yX3_sprayTakenBy, Cond.code yX3_sprayTakenBy cX3_sprayTakenBy 1 (some .int)]
def wsX1_canBeLit : List Cond := .code yX1_canBeLit cX1_canBeLit 2 (some .boolean) :: ((wsX1_canBeLit_r1 ++ wsX1_canBeLit_r2) ++ wsX10 ++ wsX20)
def wsX1_moveTo : List Cond := .code yX1_moveTo cX1_moveTo 4 none :: ([.fieldLink RX1 23 "LanternWeirs$Fleet" "lanes" "LLanternWeirs$Row;", .fieldLink RX1 26 "LanternWeirs$Fleet" "places" "LLanternWeirs$Row;", .methodLink RX1 69 yX1_crowdBy, .instanceMethod yX1_crowdBy, .selects RX1 yX1_crowdBy yX1_crowdBy, .initialized RX1, .code yX1_crowdBy cX1_crowdBy 4 none, .fieldLink RX1 16 "LanternWeirs$Fleet" "frames" "LLanternWeirs$Row;", .fieldLink RX1 44 "LanternWeirs$Fleet" "crowd" "LLanternWeirs$Row;", .methodLink RX1 80 yX2_get, .instanceMethod yX2_get, .selects RX2 yX2_get yX2_get, .initialized RX2, .code yX2_get cX2_get 2 (some .int), .fieldLink RX2 7 "LanternWeirs$Row" "cells" "[I", .methodLink RX1 92 yX1_cell, .static yX1_cell, .code yX1_cell cX1_cell 3 (some .int), .methodLink RX1 61 yX2_put, .instanceMethod yX2_put, .selects RX2 yX2_put yX2_put, .code yX2_put cX2_put 3 none] ++ wsX10 ++ wsX20)
def wsX1_fact : List Cond := .code yX1_fact cX1_fact 3 (some .int) :: ([.fieldLink RX1 16 "LanternWeirs$Fleet" "frames" "LLanternWeirs$Row;", .fieldLink RX1 20 "LanternWeirs$Fleet" "wishes" "LLanternWeirs$Row;", .fieldLink RX1 23 "LanternWeirs$Fleet" "lanes" "LLanternWeirs$Row;", .fieldLink RX1 26 "LanternWeirs$Fleet" "places" "LLanternWeirs$Row;", .fieldLink RX1 29 "LanternWeirs$Fleet" "waxes" "LLanternWeirs$Row;", .fieldLink RX1 32 "LanternWeirs$Fleet" "wets" "LLanternWeirs$Row;", .fieldLink RX1 35 "LanternWeirs$Fleet" "burning" "LLanternWeirs$Row;", .fieldLink RX1 38 "LanternWeirs$Fleet" "states" "LLanternWeirs$Row;", .fieldLink RX1 41 "LanternWeirs$Fleet" "ends" "LLanternWeirs$Row;", .methodLink RX1 80 yX2_get, .instanceMethod yX2_get, .selects RX2 yX2_get yX2_get, .initialized RX2, .code yX2_get cX2_get 2 (some .int), .fieldLink RX2 7 "LanternWeirs$Row" "cells" "[I"] ++ wsX10 ++ wsX20)
def wsX1_floatingAt : List Cond := .code yX1_floatingAt cX1_floatingAt 5 (some .int) :: ([.fieldLink RX1 44 "LanternWeirs$Fleet" "crowd" "LLanternWeirs$Row;", .methodLink RX1 92 yX1_cell, .static yX1_cell, .initialized RX1, .code yX1_cell cX1_cell 3 (some .int), .methodLink RX1 80 yX2_get, .instanceMethod yX2_get, .selects RX2 yX2_get yX2_get, .initialized RX2, .code yX2_get cX2_get 2 (some .int), .fieldLink RX2 7 "LanternWeirs$Row" "cells" "[I"] ++ wsX10 ++ wsX20)
def wsX1_caughtAt : List Cond := .code yX1_caughtAt cX1_caughtAt 5 (some .int) :: ([.fieldLink RX1 54 "LanternWeirs$Fleet" "size" "I", .fieldLink RX1 38 "LanternWeirs$Fleet" "states" "LLanternWeirs$Row;", .fieldLink RX1 23 "LanternWeirs$Fleet" "lanes" "LLanternWeirs$Row;", .fieldLink RX1 26 "LanternWeirs$Fleet" "places" "LLanternWeirs$Row;", .methodLink RX1 80 yX2_get, .instanceMethod yX2_get, .selects RX2 yX2_get yX2_get, .initialized RX2, .code yX2_get cX2_get 2 (some .int), .fieldLink RX2 7 "LanternWeirs$Row" "cells" "[I"] ++ wsX10 ++ wsX20)
def wsX1_share : List Cond := .code yX1_share cX1_share 5 (some .int) :: ([.fieldLink RX1 38 "LanternWeirs$Fleet" "states" "LLanternWeirs$Row;", .fieldLink RX1 35 "LanternWeirs$Fleet" "burning" "LLanternWeirs$Row;", .fieldLink RX1 20 "LanternWeirs$Fleet" "wishes" "LLanternWeirs$Row;", .methodLink RX1 80 yX2_get, .instanceMethod yX2_get, .selects RX2 yX2_get yX2_get, .initialized RX2, .code yX2_get cX2_get 2 (some .int), .fieldLink RX2 7 "LanternWeirs$Row" "cells" "[I"] ++ wsX10 ++ wsX20)
def wsX1_tally : List Cond := .code yX1_tally cX1_tally 4 (some .int) :: ([.fieldLink RX1 54 "LanternWeirs$Fleet" "size" "I", .methodLink RX1 96 yX1_share, .instanceMethod yX1_share, .selects RX1 yX1_share yX1_share, .initialized RX1, .code yX1_share cX1_share 5 (some .int), .fieldLink RX1 38 "LanternWeirs$Fleet" "states" "LLanternWeirs$Row;", .fieldLink RX1 35 "LanternWeirs$Fleet" "burning" "LLanternWeirs$Row;", .fieldLink RX1 20 "LanternWeirs$Fleet" "wishes" "LLanternWeirs$Row;", .methodLink RX1 80 yX2_get, .instanceMethod yX2_get, .selects RX2 yX2_get yX2_get, .initialized RX2, .code yX2_get cX2_get 2 (some .int), .fieldLink RX2 7 "LanternWeirs$Row" "cells" "[I"] ++ wsX10 ++ wsX20)
def wsX1_lineUp_r1 : List Cond := [Cond.fieldLink RX1 54 "LanternWeirs$Fleet" "size" "I", Cond.fieldLink RX1 26 "LanternWeirs$Fleet" "places" "LLanternWeirs$Row;", Cond.fieldLink RX1 23 "LanternWeirs$Fleet" "lanes" "LLanternWeirs$Row;", Cond.fieldLink RX1 47 "LanternWeirs$Fleet" "queue" "LLanternWeirs$Row;", Cond.methodLink RX1 111 yX1_isAfloat, Cond.instanceMethod yX1_isAfloat, Cond.selects RX1 yX1_isAfloat yX1_isAfloat, Cond.initialized RX1, Cond.code yX1_isAfloat cX1_isAfloat 2 (some .boolean), Cond.fieldLink RX1 38 "LanternWeirs$Fleet" "states" "LLanternWeirs$Row;", Cond.methodLink RX1 76 yX1_has, Cond.instanceMethod yX1_has, Cond.selects RX1 yX1_has yX1_has, Cond.code yX1_has cX1_has 2 (some .boolean), Cond.static yX3_isWithin, Cond.initialized RX3, Cond.code yX3_isWithin cX3_isWithin 3 (some .boolean), Cond.methodLink RX1 80 yX2_get, Cond.instanceMethod yX2_get, Cond.selects RX2 yX2_get yX2_get, Cond.initialized RX2, Cond.code yX2_get cX2_get 2 (some .int), Cond.fieldLink RX2 7 "LanternWeirs$Row" "cells" "[I", Cond.methodLink RX1 61 yX2_put]
def wsX1_lineUp_r2 : List Cond := [Cond.instanceMethod yX2_put, Cond.selects RX2 yX2_put yX2_put, Cond.code yX2_put cX2_put 3 none]
def wsX1_lineUp : List Cond := .code yX1_lineUp cX1_lineUp 6 (some .int) :: ((wsX1_lineUp_r1 ++ wsX1_lineUp_r2) ++ wsX10 ++ wsX20)
def wsX1_catchesAhead : List Cond := .code yX1_catchesAhead cX1_catchesAhead 4 (some .boolean) :: ([.fieldLink RX1 26 "LanternWeirs$Fleet" "places" "LLanternWeirs$Row;", .fieldLink RX1 16 "LanternWeirs$Fleet" "frames" "LLanternWeirs$Row;", .fieldLink RX1 44 "LanternWeirs$Fleet" "crowd" "LLanternWeirs$Row;", .fieldLink RX1 23 "LanternWeirs$Fleet" "lanes" "LLanternWeirs$Row;", .methodLink RX1 80 yX2_get, .instanceMethod yX2_get, .selects RX2 yX2_get yX2_get, .initialized RX2, .code yX2_get cX2_get 2 (some .int), .fieldLink RX2 7 "LanternWeirs$Row" "cells" "[I", .methodLink RX1 92 yX1_cell, .static yX1_cell, .initialized RX1, .code yX1_cell cX1_cell 3 (some .int)] ++ wsX10 ++ wsX20)
def wsX1_leave_r1 : List Cond := [Cond.fieldLink RX1 38 "LanternWeirs$Fleet" "states" "LLanternWeirs$Row;", Cond.fieldLink RX1 41 "LanternWeirs$Fleet" "ends" "LLanternWeirs$Row;", Cond.fieldLink RX1 58 "LanternWeirs$Fleet" "minute" "I", Cond.methodLink RX1 69 yX1_crowdBy, Cond.instanceMethod yX1_crowdBy, Cond.selects RX1 yX1_crowdBy yX1_crowdBy, Cond.initialized RX1, Cond.code yX1_crowdBy cX1_crowdBy 4 none, Cond.fieldLink RX1 23 "LanternWeirs$Fleet" "lanes" "LLanternWeirs$Row;", Cond.fieldLink RX1 26 "LanternWeirs$Fleet" "places" "LLanternWeirs$Row;", Cond.fieldLink RX1 16 "LanternWeirs$Fleet" "frames" "LLanternWeirs$Row;", Cond.fieldLink RX1 44 "LanternWeirs$Fleet" "crowd" "LLanternWeirs$Row;", Cond.methodLink RX1 80 yX2_get, Cond.instanceMethod yX2_get, Cond.selects RX2 yX2_get yX2_get, Cond.initialized RX2, Cond.code yX2_get cX2_get 2 (some .int), Cond.fieldLink RX2 7 "LanternWeirs$Row" "cells" "[I", Cond.methodLink RX1 92 yX1_cell, Cond.static yX1_cell, Cond.code yX1_cell cX1_cell 3 (some .int), Cond.methodLink RX1 61 yX2_put, Cond.instanceMethod yX2_put, Cond.selects RX2 yX2_put yX2_put]
def wsX1_leave_r2 : List Cond := [Cond.code yX2_put cX2_put 3 none]
def wsX1_leave : List Cond := .code yX1_leave cX1_leave 3 none :: ((wsX1_leave_r1 ++ wsX1_leave_r2) ++ wsX10 ++ wsX20)
def wsX1_meetWeir_r1 : List Cond := [Cond.fieldLink RX1 44 "LanternWeirs$Fleet" "crowd" "LLanternWeirs$Row;", Cond.fieldLink RX1 23 "LanternWeirs$Fleet" "lanes" "LLanternWeirs$Row;", Cond.fieldLink RX1 26 "LanternWeirs$Fleet" "places" "LLanternWeirs$Row;", Cond.fieldLink RX1 32 "LanternWeirs$Fleet" "wets" "LLanternWeirs$Row;", Cond.fieldLink RX1 35 "LanternWeirs$Fleet" "burning" "LLanternWeirs$Row;", Cond.methodLink RX1 80 yX2_get, Cond.instanceMethod yX2_get, Cond.selects RX2 yX2_get yX2_get, Cond.initialized RX2, Cond.code yX2_get cX2_get 2 (some .int), Cond.fieldLink RX2 7 "LanternWeirs$Row" "cells" "[I", Cond.methodLink RX1 92 yX1_cell, Cond.static yX1_cell, Cond.initialized RX1, Cond.code yX1_cell cX1_cell 3 (some .int), Cond.methodLink RX1 61 yX2_put, Cond.instanceMethod yX2_put, Cond.selects RX2 yX2_put yX2_put, Cond.code yX2_put cX2_put 3 none, Cond.methodLink RX1 89 yX1_isSoaked, Cond.instanceMethod yX1_isSoaked, Cond.selects RX1 yX1_isSoaked yX1_isSoaked, Cond.code yX1_isSoaked cX1_isSoaked 2 (some .boolean), Cond.fieldLink RX1 16 "LanternWeirs$Fleet" "frames" "LLanternWeirs$Row;"]
def wsX1_meetWeir_r2 : List Cond := [Cond.static yX3_sprayTakenBy, Cond.initialized RX3, Cond.code yX3_sprayTakenBy cX3_sprayTakenBy 1 (some .int)]
def wsX1_meetWeir : List Cond := .code yX1_meetWeir cX1_meetWeir 6 none :: ((wsX1_meetWeir_r1 ++ wsX1_meetWeir_r2) ++ wsX10 ++ wsX20)
def wsX1_drift_r1 : List Cond := [Cond.fieldLink RX1 23 "LanternWeirs$Fleet" "lanes" "LLanternWeirs$Row;", Cond.fieldLink RX1 114 "LanternWeirs$Bed" "currents" "LLanternWeirs$Row;", Cond.fieldLink RX1 26 "LanternWeirs$Fleet" "places" "LLanternWeirs$Row;", Cond.fieldLink RX1 35 "LanternWeirs$Fleet" "burning" "LLanternWeirs$Row;", Cond.fieldLink RX1 129 "LanternWeirs$Bed" "sprays" "LLanternWeirs$Row;", Cond.methodLink RX1 80 yX2_get, Cond.instanceMethod yX2_get, Cond.selects RX2 yX2_get yX2_get, Cond.initialized RX2, Cond.code yX2_get cX2_get 2 (some .int), Cond.fieldLink RX2 7 "LanternWeirs$Row" "cells" "[I", Cond.methodLink RX1 111 yX1_isAfloat, Cond.instanceMethod yX1_isAfloat, Cond.selects RX1 yX1_isAfloat yX1_isAfloat, Cond.initialized RX1, Cond.code yX1_isAfloat cX1_isAfloat 2 (some .boolean), Cond.fieldLink RX1 38 "LanternWeirs$Fleet" "states" "LLanternWeirs$Row;", Cond.methodLink RX1 76 yX1_has, Cond.instanceMethod yX1_has, Cond.selects RX1 yX1_has yX1_has, Cond.code yX1_has cX1_has 2 (some .boolean), Cond.fieldLink RX1 54 "LanternWeirs$Fleet" "size" "I", Cond.static yX3_isWithin, Cond.initialized RX3]
def wsX1_drift_r2 : List Cond := [Cond.code yX3_isWithin cX3_isWithin 3 (some .boolean), Cond.methodLink RX1 119 yX1_catchesAhead, Cond.instanceMethod yX1_catchesAhead, Cond.selects RX1 yX1_catchesAhead yX1_catchesAhead, Cond.code yX1_catchesAhead cX1_catchesAhead 4 (some .boolean), Cond.fieldLink RX1 16 "LanternWeirs$Fleet" "frames" "LLanternWeirs$Row;", Cond.fieldLink RX1 44 "LanternWeirs$Fleet" "crowd" "LLanternWeirs$Row;", Cond.methodLink RX1 92 yX1_cell, Cond.static yX1_cell, Cond.code yX1_cell cX1_cell 3 (some .int), Cond.methodLink RX1 122 yX1_moveTo, Cond.instanceMethod yX1_moveTo, Cond.selects RX1 yX1_moveTo yX1_moveTo, Cond.code yX1_moveTo cX1_moveTo 4 none, Cond.methodLink RX1 69 yX1_crowdBy, Cond.instanceMethod yX1_crowdBy, Cond.selects RX1 yX1_crowdBy yX1_crowdBy, Cond.code yX1_crowdBy cX1_crowdBy 4 none, Cond.methodLink RX1 61 yX2_put, Cond.instanceMethod yX2_put, Cond.selects RX2 yX2_put yX2_put, Cond.code yX2_put cX2_put 3 none, Cond.methodLink RX1 126 yX1_leave, Cond.instanceMethod yX1_leave]
def wsX1_drift_r3 : List Cond := [Cond.selects RX1 yX1_leave yX1_leave, Cond.code yX1_leave cX1_leave 3 none, Cond.fieldLink RX1 41 "LanternWeirs$Fleet" "ends" "LLanternWeirs$Row;", Cond.fieldLink RX1 58 "LanternWeirs$Fleet" "minute" "I", Cond.methodLink RX1 132 yX1_meetWeir, Cond.instanceMethod yX1_meetWeir, Cond.selects RX1 yX1_meetWeir yX1_meetWeir, Cond.code yX1_meetWeir cX1_meetWeir 6 none, Cond.fieldLink RX1 32 "LanternWeirs$Fleet" "wets" "LLanternWeirs$Row;", Cond.methodLink RX1 89 yX1_isSoaked, Cond.instanceMethod yX1_isSoaked, Cond.selects RX1 yX1_isSoaked yX1_isSoaked, Cond.code yX1_isSoaked cX1_isSoaked 2 (some .boolean), Cond.static yX3_sprayTakenBy, Cond.code yX3_sprayTakenBy cX3_sprayTakenBy 1 (some .int), Cond.methodLink RX1 135 yX0_hasNet, Cond.instanceMethod yX0_hasNet, Cond.selects RX0 yX0_hasNet yX0_hasNet, Cond.initialized RX0, Cond.code yX0_hasNet cX0_hasNet 3 (some .boolean), Cond.fieldLink RX0 23 "LanternWeirs$Bed" "nets" "LLanternWeirs$Row;", Cond.methodLink RX0 37 yX2_get]
def wsX1_drift : List Cond := .code yX1_drift cX1_drift 7 none :: ((wsX1_drift_r1 ++ (wsX1_drift_r2 ++ wsX1_drift_r3)) ++ wsX10 ++ wsX00 ++ wsX20)
def wsX1_useWax_r1 : List Cond := [Cond.fieldLink RX1 54 "LanternWeirs$Fleet" "size" "I", Cond.fieldLink RX1 29 "LanternWeirs$Fleet" "waxes" "LLanternWeirs$Row;", Cond.fieldLink RX1 35 "LanternWeirs$Fleet" "burning" "LLanternWeirs$Row;", Cond.methodLink RX1 111 yX1_isAfloat, Cond.instanceMethod yX1_isAfloat, Cond.selects RX1 yX1_isAfloat yX1_isAfloat, Cond.initialized RX1, Cond.code yX1_isAfloat cX1_isAfloat 2 (some .boolean), Cond.fieldLink RX1 38 "LanternWeirs$Fleet" "states" "LLanternWeirs$Row;", Cond.methodLink RX1 76 yX1_has, Cond.instanceMethod yX1_has, Cond.selects RX1 yX1_has yX1_has, Cond.code yX1_has cX1_has 2 (some .boolean), Cond.static yX3_isWithin, Cond.initialized RX3, Cond.code yX3_isWithin cX3_isWithin 3 (some .boolean), Cond.methodLink RX1 80 yX2_get, Cond.instanceMethod yX2_get, Cond.selects RX2 yX2_get yX2_get, Cond.initialized RX2, Cond.code yX2_get cX2_get 2 (some .int), Cond.fieldLink RX2 7 "LanternWeirs$Row" "cells" "[I", Cond.methodLink RX1 86 yX1_isBurning, Cond.instanceMethod yX1_isBurning]
def wsX1_useWax_r2 : List Cond := [Cond.selects RX1 yX1_isBurning yX1_isBurning, Cond.code yX1_isBurning cX1_isBurning 2 (some .boolean), Cond.methodLink RX1 61 yX2_put, Cond.instanceMethod yX2_put, Cond.selects RX2 yX2_put yX2_put, Cond.code yX2_put cX2_put 3 none]
def wsX1_useWax : List Cond := .code yX1_useWax cX1_useWax 3 none :: ((wsX1_useWax_r1 ++ wsX1_useWax_r2) ++ wsX10 ++ wsX20)
def wsX1_passMinutes_r1 : List Cond := [Cond.fieldLink RX1 47 "LanternWeirs$Fleet" "queue" "LLanternWeirs$Row;", Cond.fieldLink RX1 58 "LanternWeirs$Fleet" "minute" "I", Cond.methodLink RX1 100 yX1_lineUp, Cond.instanceMethod yX1_lineUp, Cond.selects RX1 yX1_lineUp yX1_lineUp, Cond.initialized RX1, Cond.code yX1_lineUp cX1_lineUp 6 (some .int), Cond.fieldLink RX1 54 "LanternWeirs$Fleet" "size" "I", Cond.fieldLink RX1 26 "LanternWeirs$Fleet" "places" "LLanternWeirs$Row;", Cond.fieldLink RX1 23 "LanternWeirs$Fleet" "lanes" "LLanternWeirs$Row;", Cond.methodLink RX1 111 yX1_isAfloat, Cond.instanceMethod yX1_isAfloat, Cond.selects RX1 yX1_isAfloat yX1_isAfloat, Cond.code yX1_isAfloat cX1_isAfloat 2 (some .boolean), Cond.fieldLink RX1 38 "LanternWeirs$Fleet" "states" "LLanternWeirs$Row;", Cond.methodLink RX1 76 yX1_has, Cond.instanceMethod yX1_has, Cond.selects RX1 yX1_has yX1_has, Cond.code yX1_has cX1_has 2 (some .boolean), Cond.static yX3_isWithin, Cond.initialized RX3, Cond.code yX3_isWithin cX3_isWithin 3 (some .boolean), Cond.methodLink RX1 80 yX2_get, Cond.instanceMethod yX2_get]
def wsX1_passMinutes_r2 : List Cond := [Cond.selects RX2 yX2_get yX2_get, Cond.initialized RX2, Cond.code yX2_get cX2_get 2 (some .int), Cond.fieldLink RX2 7 "LanternWeirs$Row" "cells" "[I", Cond.methodLink RX1 61 yX2_put, Cond.instanceMethod yX2_put, Cond.selects RX2 yX2_put yX2_put, Cond.code yX2_put cX2_put 3 none, Cond.methodLink RX1 104 yX1_drift, Cond.instanceMethod yX1_drift, Cond.selects RX1 yX1_drift yX1_drift, Cond.code yX1_drift cX1_drift 7 none, Cond.fieldLink RX1 114 "LanternWeirs$Bed" "currents" "LLanternWeirs$Row;", Cond.fieldLink RX1 35 "LanternWeirs$Fleet" "burning" "LLanternWeirs$Row;", Cond.fieldLink RX1 129 "LanternWeirs$Bed" "sprays" "LLanternWeirs$Row;", Cond.methodLink RX1 119 yX1_catchesAhead, Cond.instanceMethod yX1_catchesAhead, Cond.selects RX1 yX1_catchesAhead yX1_catchesAhead, Cond.code yX1_catchesAhead cX1_catchesAhead 4 (some .boolean), Cond.fieldLink RX1 16 "LanternWeirs$Fleet" "frames" "LLanternWeirs$Row;", Cond.fieldLink RX1 44 "LanternWeirs$Fleet" "crowd" "LLanternWeirs$Row;", Cond.methodLink RX1 92 yX1_cell, Cond.static yX1_cell, Cond.code yX1_cell cX1_cell 3 (some .int)]
def wsX1_passMinutes_r3 : List Cond := [Cond.methodLink RX1 122 yX1_moveTo, Cond.instanceMethod yX1_moveTo, Cond.selects RX1 yX1_moveTo yX1_moveTo, Cond.code yX1_moveTo cX1_moveTo 4 none, Cond.methodLink RX1 69 yX1_crowdBy, Cond.instanceMethod yX1_crowdBy, Cond.selects RX1 yX1_crowdBy yX1_crowdBy, Cond.code yX1_crowdBy cX1_crowdBy 4 none, Cond.methodLink RX1 126 yX1_leave, Cond.instanceMethod yX1_leave, Cond.selects RX1 yX1_leave yX1_leave, Cond.code yX1_leave cX1_leave 3 none, Cond.fieldLink RX1 41 "LanternWeirs$Fleet" "ends" "LLanternWeirs$Row;", Cond.methodLink RX1 132 yX1_meetWeir, Cond.instanceMethod yX1_meetWeir, Cond.selects RX1 yX1_meetWeir yX1_meetWeir, Cond.code yX1_meetWeir cX1_meetWeir 6 none, Cond.fieldLink RX1 32 "LanternWeirs$Fleet" "wets" "LLanternWeirs$Row;", Cond.methodLink RX1 89 yX1_isSoaked, Cond.instanceMethod yX1_isSoaked, Cond.selects RX1 yX1_isSoaked yX1_isSoaked, Cond.code yX1_isSoaked cX1_isSoaked 2 (some .boolean), Cond.static yX3_sprayTakenBy, Cond.code yX3_sprayTakenBy cX3_sprayTakenBy 1 (some .int)]
def wsX1_passMinutes_r4 : List Cond := [Cond.methodLink RX1 135 yX0_hasNet, Cond.instanceMethod yX0_hasNet, Cond.selects RX0 yX0_hasNet yX0_hasNet, Cond.initialized RX0, Cond.code yX0_hasNet cX0_hasNet 3 (some .boolean), Cond.fieldLink RX0 23 "LanternWeirs$Bed" "nets" "LLanternWeirs$Row;", Cond.methodLink RX0 37 yX2_get, Cond.methodLink RX1 108 yX1_useWax, Cond.instanceMethod yX1_useWax, Cond.selects RX1 yX1_useWax yX1_useWax, Cond.code yX1_useWax cX1_useWax 3 none, Cond.fieldLink RX1 29 "LanternWeirs$Fleet" "waxes" "LLanternWeirs$Row;", Cond.methodLink RX1 86 yX1_isBurning, Cond.instanceMethod yX1_isBurning, Cond.selects RX1 yX1_isBurning yX1_isBurning, Cond.code yX1_isBurning cX1_isBurning 2 (some .boolean)]
def wsX1_passMinutes : List Cond := .code yX1_passMinutes cX1_passMinutes 6 none :: ((wsX1_passMinutes_r1 ++ (wsX1_passMinutes_r2 ++ (wsX1_passMinutes_r3 ++ wsX1_passMinutes_r4))) ++ wsX10 ++ wsX20 ++ wsX00)
def wsX3_init_r1 : List Cond := [Cond.methodLink RX3 1 objectInit, Cond.instanceMethod objectInit, Cond.code objectInit ⟨#[0xb1]⟩ 1 none, Cond.classLink RX3 7 RX0, Cond.instantiable RX0 5, Cond.initialized RX0, Cond.fieldLink RX3 10 "LanternWeirs" "bed" "LLanternWeirs$Bed;", Cond.classLink RX3 16 RX1, Cond.instantiable RX1 13, Cond.initialized RX1, Cond.fieldLink RX3 19 "LanternWeirs" "fleet" "LLanternWeirs$Fleet;", Cond.fieldLink RX3 23 "LanternWeirs" "dream" "LLanternWeirs$Fleet;", Cond.methodLink RX3 9 yX0_init, Cond.instanceMethod yX0_init, Cond.code yX0_init cX0_init 1 none, Cond.methodLink RX0 3 objectInit, Cond.classLink RX0 9 RX2, Cond.instantiable RX2 1, Cond.initialized RX2, Cond.fieldLink RX0 14 "LanternWeirs$Bed" "currents" "LLanternWeirs$Row;", Cond.fieldLink RX0 20 "LanternWeirs$Bed" "sprays" "LLanternWeirs$Row;", Cond.fieldLink RX0 23 "LanternWeirs$Bed" "nets" "LLanternWeirs$Row;", Cond.methodLink RX0 11 yX2_init, Cond.instanceMethod yX2_init]
def wsX3_init_r2 : List Cond := [Cond.code yX2_init cX2_init 2 none, Cond.methodLink RX2 1 objectInit, Cond.arrayClass .int, Cond.fieldLink RX2 7 "LanternWeirs$Row" "cells" "[I", Cond.methodLink RX0 26 yX2_put, Cond.instanceMethod yX2_put, Cond.selects RX2 yX2_put yX2_put, Cond.code yX2_put cX2_put 3 none, Cond.instanceMethod yX1_init, Cond.code yX1_init cX1_init 1 none, Cond.methodLink RX1 3 objectInit, Cond.classLink RX1 9 RX2, Cond.fieldLink RX1 16 "LanternWeirs$Fleet" "frames" "LLanternWeirs$Row;", Cond.fieldLink RX1 20 "LanternWeirs$Fleet" "wishes" "LLanternWeirs$Row;", Cond.fieldLink RX1 23 "LanternWeirs$Fleet" "lanes" "LLanternWeirs$Row;", Cond.fieldLink RX1 26 "LanternWeirs$Fleet" "places" "LLanternWeirs$Row;", Cond.fieldLink RX1 29 "LanternWeirs$Fleet" "waxes" "LLanternWeirs$Row;", Cond.fieldLink RX1 32 "LanternWeirs$Fleet" "wets" "LLanternWeirs$Row;", Cond.fieldLink RX1 35 "LanternWeirs$Fleet" "burning" "LLanternWeirs$Row;", Cond.fieldLink RX1 38 "LanternWeirs$Fleet" "states" "LLanternWeirs$Row;", Cond.fieldLink RX1 41 "LanternWeirs$Fleet" "ends" "LLanternWeirs$Row;", Cond.fieldLink RX1 44 "LanternWeirs$Fleet" "crowd" "LLanternWeirs$Row;", Cond.fieldLink RX1 47 "LanternWeirs$Fleet" "queue" "LLanternWeirs$Row;", Cond.methodLink RX1 13 yX2_init]
def wsX3_init : List Cond := .code yX3_init cX3_init 1 none :: ((wsX3_init_r1 ++ wsX3_init_r2) ++ wsX00 ++ wsX30 ++ wsX10 ++ wsX20)
def wsX3_isLane : List Cond := .code yX3_isLane cX3_isLane 1 (some .boolean) :: ([.methodLink RX3 37 yX3_isWithin, .static yX3_isWithin, .initialized RX3, .code yX3_isWithin cX3_isWithin 3 (some .boolean)])
def wsX3_setCurrent : List Cond := .code yX3_setCurrent cX3_setCurrent 4 (some .int) :: ([.classLink RX3 30 "java/lang/IndexOutOfBoundsException", .initialized "java/lang/IndexOutOfBoundsException", .classLink RX3 41 "java/lang/IllegalArgumentException", .initialized "java/lang/IllegalArgumentException", .fieldLink RX3 10 "LanternWeirs" "bed" "LLanternWeirs$Bed;", .fieldLink RX3 46 "LanternWeirs$Bed" "currents" "LLanternWeirs$Row;", .methodLink RX3 26 yX3_isLane, .static yX3_isLane, .initialized RX3, .code yX3_isLane cX3_isLane 1 (some .boolean), .methodLink RX3 37 yX3_isWithin, .static yX3_isWithin, .code yX3_isWithin cX3_isWithin 3 (some .boolean), .methodLink RX3 50 yX2_get, .instanceMethod yX2_get, .selects RX2 yX2_get yX2_get, .initialized RX2, .code yX2_get cX2_get 2 (some .int), .fieldLink RX2 7 "LanternWeirs$Row" "cells" "[I", .methodLink RX3 56 yX2_put, .instanceMethod yX2_put, .selects RX2 yX2_put yX2_put, .code yX2_put cX2_put 3 none] ++ wsX30 ++ wsX00 ++ wsX20 ++ (vx_atS RX3 34 "java/lang/IndexOutOfBoundsException" ["java/lang/RuntimeException", "java/lang/Exception"]).filter goodWord ++ (vx_atS RX3 45 "java/lang/IllegalArgumentException" ["java/lang/RuntimeException", "java/lang/Exception"]).filter goodWord)
def wsX3_weir_r1 : List Cond := [Cond.classLink RX3 30 "java/lang/IndexOutOfBoundsException", Cond.initialized "java/lang/IndexOutOfBoundsException", Cond.classLink RX3 41 "java/lang/IllegalArgumentException", Cond.initialized "java/lang/IllegalArgumentException", Cond.classLink RX3 71 "java/lang/IllegalStateException", Cond.initialized "java/lang/IllegalStateException", Cond.fieldLink RX3 10 "LanternWeirs" "bed" "LLanternWeirs$Bed;", Cond.fieldLink RX3 64 "LanternWeirs$Bed" "weirs" "I", Cond.fieldLink RX3 68 "LanternWeirs$Bed" "sprays" "LLanternWeirs$Row;", Cond.methodLink RX3 37 yX3_isWithin, Cond.static yX3_isWithin, Cond.initialized RX3, Cond.code yX3_isWithin cX3_isWithin 3 (some .boolean), Cond.methodLink RX3 50 yX2_get, Cond.instanceMethod yX2_get, Cond.selects RX2 yX2_get yX2_get, Cond.initialized RX2, Cond.code yX2_get cX2_get 2 (some .int), Cond.fieldLink RX2 7 "LanternWeirs$Row" "cells" "[I", Cond.methodLink RX3 76 yX0_addWeir, Cond.instanceMethod yX0_addWeir, Cond.selects RX0 yX0_addWeir yX0_addWeir, Cond.initialized RX0, Cond.code yX0_addWeir cX0_addWeir 3 (some .int)]
def wsX3_weir_r2 : List Cond := [Cond.fieldLink RX0 20 "LanternWeirs$Bed" "sprays" "LLanternWeirs$Row;", Cond.fieldLink RX0 30 "LanternWeirs$Bed" "weirs" "I", Cond.methodLink RX0 26 yX2_put, Cond.instanceMethod yX2_put, Cond.selects RX2 yX2_put yX2_put, Cond.code yX2_put cX2_put 3 none]
def wsX3_weir : List Cond := .code yX3_weir cX3_weir 3 (some .int) :: ((wsX3_weir_r1 ++ wsX3_weir_r2) ++ wsX30 ++ wsX00 ++ wsX20 ++ (vx_atS RX3 34 "java/lang/IndexOutOfBoundsException" ["java/lang/RuntimeException", "java/lang/Exception"]).filter goodWord ++ (vx_atS RX3 45 "java/lang/IllegalArgumentException" ["java/lang/RuntimeException", "java/lang/Exception"]).filter goodWord ++ (vx_atS RX3 75 "java/lang/IllegalStateException" ["java/lang/RuntimeException", "java/lang/Exception"]).filter goodWord)
def wsX3_net_r1 : List Cond := [Cond.classLink RX3 30 "java/lang/IndexOutOfBoundsException", Cond.initialized "java/lang/IndexOutOfBoundsException", Cond.classLink RX3 71 "java/lang/IllegalStateException", Cond.initialized "java/lang/IllegalStateException", Cond.fieldLink RX3 10 "LanternWeirs" "bed" "LLanternWeirs$Bed;", Cond.fieldLink RX3 82 "LanternWeirs$Bed" "netCount" "I", Cond.methodLink RX3 26 yX3_isLane, Cond.static yX3_isLane, Cond.initialized RX3, Cond.code yX3_isLane cX3_isLane 1 (some .boolean), Cond.methodLink RX3 37 yX3_isWithin, Cond.static yX3_isWithin, Cond.code yX3_isWithin cX3_isWithin 3 (some .boolean), Cond.methodLink RX3 85 yX0_hasNet, Cond.instanceMethod yX0_hasNet, Cond.selects RX0 yX0_hasNet yX0_hasNet, Cond.initialized RX0, Cond.code yX0_hasNet cX0_hasNet 3 (some .boolean), Cond.fieldLink RX0 23 "LanternWeirs$Bed" "nets" "LLanternWeirs$Row;", Cond.methodLink RX0 37 yX2_get, Cond.instanceMethod yX2_get, Cond.selects RX2 yX2_get yX2_get, Cond.initialized RX2, Cond.code yX2_get cX2_get 2 (some .int)]
def wsX3_net_r2 : List Cond := [Cond.fieldLink RX2 7 "LanternWeirs$Row" "cells" "[I", Cond.methodLink RX3 91 yX0_addNet, Cond.instanceMethod yX0_addNet, Cond.selects RX0 yX0_addNet yX0_addNet, Cond.code yX0_addNet cX0_addNet 3 (some .int), Cond.fieldLink RX0 34 "LanternWeirs$Bed" "netCount" "I", Cond.methodLink RX0 26 yX2_put, Cond.instanceMethod yX2_put, Cond.selects RX2 yX2_put yX2_put, Cond.code yX2_put cX2_put 3 none]
def wsX3_net : List Cond := .code yX3_net cX3_net 3 (some .int) :: ((wsX3_net_r1 ++ wsX3_net_r2) ++ wsX30 ++ wsX00 ++ wsX20 ++ (vx_atS RX3 34 "java/lang/IndexOutOfBoundsException" ["java/lang/RuntimeException", "java/lang/Exception"]).filter goodWord ++ (vx_atS RX3 75 "java/lang/IllegalStateException" ["java/lang/RuntimeException", "java/lang/Exception"]).filter goodWord)
def wsX3_isPlace : List Cond := .code yX3_isPlace cX3_isPlace 1 (some .boolean) :: ([.methodLink RX3 37 yX3_isWithin, .static yX3_isWithin, .initialized RX3, .code yX3_isWithin cX3_isWithin 3 (some .boolean)])
def wsX3_riverFact_r1 : List Cond := [Cond.fieldLink RX3 19 "LanternWeirs" "fleet" "LLanternWeirs$Fleet;", Cond.fieldLink RX3 10 "LanternWeirs" "bed" "LLanternWeirs$Bed;", Cond.fieldLink RX3 68 "LanternWeirs$Bed" "sprays" "LLanternWeirs$Row;", Cond.methodLink RX3 194 yX1_floatingAt, Cond.instanceMethod yX1_floatingAt, Cond.selects RX1 yX1_floatingAt yX1_floatingAt, Cond.initialized RX1, Cond.code yX1_floatingAt cX1_floatingAt 5 (some .int), Cond.fieldLink RX1 44 "LanternWeirs$Fleet" "crowd" "LLanternWeirs$Row;", Cond.methodLink RX1 92 yX1_cell, Cond.static yX1_cell, Cond.code yX1_cell cX1_cell 3 (some .int), Cond.methodLink RX1 80 yX2_get, Cond.instanceMethod yX2_get, Cond.selects RX2 yX2_get yX2_get, Cond.initialized RX2, Cond.code yX2_get cX2_get 2 (some .int), Cond.fieldLink RX2 7 "LanternWeirs$Row" "cells" "[I", Cond.methodLink RX3 50 yX2_get, Cond.methodLink RX3 85 yX0_hasNet, Cond.instanceMethod yX0_hasNet, Cond.selects RX0 yX0_hasNet yX0_hasNet, Cond.initialized RX0, Cond.code yX0_hasNet cX0_hasNet 3 (some .boolean)]
def wsX3_riverFact_r2 : List Cond := [Cond.fieldLink RX0 23 "LanternWeirs$Bed" "nets" "LLanternWeirs$Row;", Cond.methodLink RX0 37 yX2_get, Cond.methodLink RX3 197 yX1_caughtAt, Cond.instanceMethod yX1_caughtAt, Cond.selects RX1 yX1_caughtAt yX1_caughtAt, Cond.code yX1_caughtAt cX1_caughtAt 5 (some .int), Cond.fieldLink RX1 54 "LanternWeirs$Fleet" "size" "I", Cond.fieldLink RX1 38 "LanternWeirs$Fleet" "states" "LLanternWeirs$Row;", Cond.fieldLink RX1 23 "LanternWeirs$Fleet" "lanes" "LLanternWeirs$Row;", Cond.fieldLink RX1 26 "LanternWeirs$Fleet" "places" "LLanternWeirs$Row;"]
def wsX3_riverFact : List Cond := .code yX3_riverFact cX3_riverFact 4 (some .int) :: ((wsX3_riverFact_r1 ++ wsX3_riverFact_r2) ++ wsX30 ++ wsX00 ++ wsX10 ++ wsX20)
def wsX3_river_r1 : List Cond := [Cond.classLink RX3 30 "java/lang/IndexOutOfBoundsException", Cond.initialized "java/lang/IndexOutOfBoundsException", Cond.methodLink RX3 26 yX3_isLane, Cond.static yX3_isLane, Cond.initialized RX3, Cond.code yX3_isLane cX3_isLane 1 (some .boolean), Cond.methodLink RX3 37 yX3_isWithin, Cond.static yX3_isWithin, Cond.code yX3_isWithin cX3_isWithin 3 (some .boolean), Cond.methodLink RX3 94 yX3_isPlace, Cond.static yX3_isPlace, Cond.code yX3_isPlace cX3_isPlace 1 (some .boolean), Cond.methodLink RX3 99 yX3_riverFact, Cond.instanceMethod yX3_riverFact, Cond.selects RX3 yX3_riverFact yX3_riverFact, Cond.code yX3_riverFact cX3_riverFact 4 (some .int), Cond.fieldLink RX3 19 "LanternWeirs" "fleet" "LLanternWeirs$Fleet;", Cond.fieldLink RX3 10 "LanternWeirs" "bed" "LLanternWeirs$Bed;", Cond.fieldLink RX3 68 "LanternWeirs$Bed" "sprays" "LLanternWeirs$Row;", Cond.methodLink RX3 194 yX1_floatingAt, Cond.instanceMethod yX1_floatingAt, Cond.selects RX1 yX1_floatingAt yX1_floatingAt, Cond.initialized RX1, Cond.code yX1_floatingAt cX1_floatingAt 5 (some .int)]
def wsX3_river_r2 : List Cond := [Cond.fieldLink RX1 44 "LanternWeirs$Fleet" "crowd" "LLanternWeirs$Row;", Cond.methodLink RX1 92 yX1_cell, Cond.static yX1_cell, Cond.code yX1_cell cX1_cell 3 (some .int), Cond.methodLink RX1 80 yX2_get, Cond.instanceMethod yX2_get, Cond.selects RX2 yX2_get yX2_get, Cond.initialized RX2, Cond.code yX2_get cX2_get 2 (some .int), Cond.fieldLink RX2 7 "LanternWeirs$Row" "cells" "[I", Cond.methodLink RX3 50 yX2_get, Cond.methodLink RX3 85 yX0_hasNet, Cond.instanceMethod yX0_hasNet, Cond.selects RX0 yX0_hasNet yX0_hasNet, Cond.initialized RX0, Cond.code yX0_hasNet cX0_hasNet 3 (some .boolean), Cond.fieldLink RX0 23 "LanternWeirs$Bed" "nets" "LLanternWeirs$Row;", Cond.methodLink RX0 37 yX2_get, Cond.methodLink RX3 197 yX1_caughtAt, Cond.instanceMethod yX1_caughtAt, Cond.selects RX1 yX1_caughtAt yX1_caughtAt, Cond.code yX1_caughtAt cX1_caughtAt 5 (some .int), Cond.fieldLink RX1 54 "LanternWeirs$Fleet" "size" "I", Cond.fieldLink RX1 38 "LanternWeirs$Fleet" "states" "LLanternWeirs$Row;"]
def wsX3_river_r3 : List Cond := [Cond.fieldLink RX1 23 "LanternWeirs$Fleet" "lanes" "LLanternWeirs$Row;", Cond.fieldLink RX1 26 "LanternWeirs$Fleet" "places" "LLanternWeirs$Row;"]
def wsX3_river : List Cond := .code yX3_river cX3_river 4 (some .int) :: ((wsX3_river_r1 ++ (wsX3_river_r2 ++ wsX3_river_r3)) ++ wsX30 ++ wsX00 ++ wsX10 ++ wsX20 ++ (vx_atS RX3 34 "java/lang/IndexOutOfBoundsException" ["java/lang/RuntimeException", "java/lang/Exception"]).filter goodWord)
def wsX3_isFrame : List Cond := .code yX3_isFrame cX3_isFrame 1 (some .boolean) :: ([.methodLink RX3 37 yX3_isWithin, .static yX3_isWithin, .initialized RX3, .code yX3_isWithin cX3_isWithin 3 (some .boolean)])
def wsX3_launch_r1 : List Cond := [Cond.classLink RX3 30 "java/lang/IndexOutOfBoundsException", Cond.initialized "java/lang/IndexOutOfBoundsException", Cond.classLink RX3 41 "java/lang/IllegalArgumentException", Cond.initialized "java/lang/IllegalArgumentException", Cond.classLink RX3 71 "java/lang/IllegalStateException", Cond.initialized "java/lang/IllegalStateException", Cond.fieldLink RX3 19 "LanternWeirs" "fleet" "LLanternWeirs$Fleet;", Cond.fieldLink RX3 110 "LanternWeirs$Fleet" "size" "I", Cond.methodLink RX3 103 yX3_isFrame, Cond.static yX3_isFrame, Cond.initialized RX3, Cond.code yX3_isFrame cX3_isFrame 1 (some .boolean), Cond.methodLink RX3 37 yX3_isWithin, Cond.static yX3_isWithin, Cond.code yX3_isWithin cX3_isWithin 3 (some .boolean), Cond.methodLink RX3 26 yX3_isLane, Cond.static yX3_isLane, Cond.code yX3_isLane cX3_isLane 1 (some .boolean), Cond.methodLink RX3 94 yX3_isPlace, Cond.static yX3_isPlace, Cond.code yX3_isPlace cX3_isPlace 1 (some .boolean), Cond.methodLink RX3 115 yX1_add, Cond.instanceMethod yX1_add, Cond.selects RX1 yX1_add yX1_add]
def wsX3_launch_r2 : List Cond := [Cond.initialized RX1, Cond.code yX1_add cX1_add 6 (some .int), Cond.fieldLink RX1 54 "LanternWeirs$Fleet" "size" "I", Cond.fieldLink RX1 16 "LanternWeirs$Fleet" "frames" "LLanternWeirs$Row;", Cond.fieldLink RX1 20 "LanternWeirs$Fleet" "wishes" "LLanternWeirs$Row;", Cond.fieldLink RX1 23 "LanternWeirs$Fleet" "lanes" "LLanternWeirs$Row;", Cond.fieldLink RX1 26 "LanternWeirs$Fleet" "places" "LLanternWeirs$Row;", Cond.fieldLink RX1 29 "LanternWeirs$Fleet" "waxes" "LLanternWeirs$Row;", Cond.fieldLink RX1 32 "LanternWeirs$Fleet" "wets" "LLanternWeirs$Row;", Cond.fieldLink RX1 35 "LanternWeirs$Fleet" "burning" "LLanternWeirs$Row;", Cond.fieldLink RX1 38 "LanternWeirs$Fleet" "states" "LLanternWeirs$Row;", Cond.fieldLink RX1 41 "LanternWeirs$Fleet" "ends" "LLanternWeirs$Row;", Cond.methodLink RX1 61 yX2_put, Cond.instanceMethod yX2_put, Cond.selects RX2 yX2_put yX2_put, Cond.initialized RX2, Cond.code yX2_put cX2_put 3 none, Cond.fieldLink RX2 7 "LanternWeirs$Row" "cells" "[I", Cond.static yX3_waxOf, Cond.code yX3_waxOf cX3_waxOf 1 (some .int), Cond.methodLink RX1 69 yX1_crowdBy, Cond.instanceMethod yX1_crowdBy, Cond.selects RX1 yX1_crowdBy yX1_crowdBy, Cond.code yX1_crowdBy cX1_crowdBy 4 none]
def wsX3_launch_r3 : List Cond := [Cond.fieldLink RX1 44 "LanternWeirs$Fleet" "crowd" "LLanternWeirs$Row;", Cond.methodLink RX1 80 yX2_get, Cond.instanceMethod yX2_get, Cond.selects RX2 yX2_get yX2_get, Cond.code yX2_get cX2_get 2 (some .int), Cond.methodLink RX1 92 yX1_cell, Cond.static yX1_cell, Cond.code yX1_cell cX1_cell 3 (some .int)]
def wsX3_launch : List Cond := .code yX3_launch cX3_launch 5 (some .int) :: ((wsX3_launch_r1 ++ (wsX3_launch_r2 ++ wsX3_launch_r3)) ++ wsX30 ++ wsX10 ++ wsX20 ++ (vx_atS RX3 34 "java/lang/IndexOutOfBoundsException" ["java/lang/RuntimeException", "java/lang/Exception"]).filter goodWord ++ (vx_atS RX3 45 "java/lang/IllegalArgumentException" ["java/lang/RuntimeException", "java/lang/Exception"]).filter goodWord ++ (vx_atS RX3 75 "java/lang/IllegalStateException" ["java/lang/RuntimeException", "java/lang/Exception"]).filter goodWord)
def wsX3_push_r1 : List Cond := [Cond.classLink RX3 30 "java/lang/IndexOutOfBoundsException", Cond.initialized "java/lang/IndexOutOfBoundsException", Cond.classLink RX3 71 "java/lang/IllegalStateException", Cond.initialized "java/lang/IllegalStateException", Cond.fieldLink RX3 19 "LanternWeirs" "fleet" "LLanternWeirs$Fleet;", Cond.fieldLink RX3 129 "LanternWeirs$Fleet" "lanes" "LLanternWeirs$Row;", Cond.fieldLink RX3 132 "LanternWeirs$Fleet" "places" "LLanternWeirs$Row;", Cond.methodLink RX3 119 yX1_has, Cond.instanceMethod yX1_has, Cond.selects RX1 yX1_has yX1_has, Cond.initialized RX1, Cond.code yX1_has cX1_has 2 (some .boolean), Cond.fieldLink RX1 54 "LanternWeirs$Fleet" "size" "I", Cond.static yX3_isWithin, Cond.initialized RX3, Cond.code yX3_isWithin cX3_isWithin 3 (some .boolean), Cond.methodLink RX3 26 yX3_isLane, Cond.static yX3_isLane, Cond.code yX3_isLane cX3_isLane 1 (some .boolean), Cond.methodLink RX3 37 yX3_isWithin, Cond.methodLink RX3 124 yX1_isAfloat, Cond.instanceMethod yX1_isAfloat, Cond.selects RX1 yX1_isAfloat yX1_isAfloat, Cond.code yX1_isAfloat cX1_isAfloat 2 (some .boolean)]
def wsX3_push_r2 : List Cond := [Cond.fieldLink RX1 38 "LanternWeirs$Fleet" "states" "LLanternWeirs$Row;", Cond.methodLink RX1 76 yX1_has, Cond.methodLink RX1 80 yX2_get, Cond.instanceMethod yX2_get, Cond.selects RX2 yX2_get yX2_get, Cond.initialized RX2, Cond.code yX2_get cX2_get 2 (some .int), Cond.fieldLink RX2 7 "LanternWeirs$Row" "cells" "[I", Cond.methodLink RX3 50 yX2_get, Cond.methodLink RX3 135 yX1_moveTo, Cond.instanceMethod yX1_moveTo, Cond.selects RX1 yX1_moveTo yX1_moveTo, Cond.code yX1_moveTo cX1_moveTo 4 none, Cond.fieldLink RX1 23 "LanternWeirs$Fleet" "lanes" "LLanternWeirs$Row;", Cond.fieldLink RX1 26 "LanternWeirs$Fleet" "places" "LLanternWeirs$Row;", Cond.methodLink RX1 69 yX1_crowdBy, Cond.instanceMethod yX1_crowdBy, Cond.selects RX1 yX1_crowdBy yX1_crowdBy, Cond.code yX1_crowdBy cX1_crowdBy 4 none, Cond.fieldLink RX1 16 "LanternWeirs$Fleet" "frames" "LLanternWeirs$Row;", Cond.fieldLink RX1 44 "LanternWeirs$Fleet" "crowd" "LLanternWeirs$Row;", Cond.methodLink RX1 92 yX1_cell, Cond.static yX1_cell, Cond.code yX1_cell cX1_cell 3 (some .int)]
def wsX3_push_r3 : List Cond := [Cond.methodLink RX1 61 yX2_put, Cond.instanceMethod yX2_put, Cond.selects RX2 yX2_put yX2_put, Cond.code yX2_put cX2_put 3 none]
def wsX3_push : List Cond := .code yX3_push cX3_push 4 (some .int) :: ((wsX3_push_r1 ++ (wsX3_push_r2 ++ wsX3_push_r3)) ++ wsX30 ++ wsX10 ++ wsX20 ++ (vx_atS RX3 34 "java/lang/IndexOutOfBoundsException" ["java/lang/RuntimeException", "java/lang/Exception"]).filter goodWord ++ (vx_atS RX3 75 "java/lang/IllegalStateException" ["java/lang/RuntimeException", "java/lang/Exception"]).filter goodWord)
def wsX3_light_r1 : List Cond := [Cond.classLink RX3 30 "java/lang/IndexOutOfBoundsException", Cond.initialized "java/lang/IndexOutOfBoundsException", Cond.classLink RX3 71 "java/lang/IllegalStateException", Cond.initialized "java/lang/IllegalStateException", Cond.fieldLink RX3 19 "LanternWeirs" "fleet" "LLanternWeirs$Fleet;", Cond.fieldLink RX3 146 "LanternWeirs$Fleet" "burning" "LLanternWeirs$Row;", Cond.fieldLink RX3 149 "LanternWeirs$Fleet" "waxes" "LLanternWeirs$Row;", Cond.methodLink RX3 119 yX1_has, Cond.instanceMethod yX1_has, Cond.selects RX1 yX1_has yX1_has, Cond.initialized RX1, Cond.code yX1_has cX1_has 2 (some .boolean), Cond.fieldLink RX1 54 "LanternWeirs$Fleet" "size" "I", Cond.static yX3_isWithin, Cond.initialized RX3, Cond.code yX3_isWithin cX3_isWithin 3 (some .boolean), Cond.methodLink RX3 124 yX1_isAfloat, Cond.instanceMethod yX1_isAfloat, Cond.selects RX1 yX1_isAfloat yX1_isAfloat, Cond.code yX1_isAfloat cX1_isAfloat 2 (some .boolean), Cond.fieldLink RX1 38 "LanternWeirs$Fleet" "states" "LLanternWeirs$Row;", Cond.methodLink RX1 76 yX1_has, Cond.methodLink RX1 80 yX2_get, Cond.instanceMethod yX2_get]
def wsX3_light_r2 : List Cond := [Cond.selects RX2 yX2_get yX2_get, Cond.initialized RX2, Cond.code yX2_get cX2_get 2 (some .int), Cond.fieldLink RX2 7 "LanternWeirs$Row" "cells" "[I", Cond.methodLink RX3 141 yX1_canBeLit, Cond.instanceMethod yX1_canBeLit, Cond.selects RX1 yX1_canBeLit yX1_canBeLit, Cond.code yX1_canBeLit cX1_canBeLit 2 (some .boolean), Cond.fieldLink RX1 29 "LanternWeirs$Fleet" "waxes" "LLanternWeirs$Row;", Cond.methodLink RX1 86 yX1_isBurning, Cond.instanceMethod yX1_isBurning, Cond.selects RX1 yX1_isBurning yX1_isBurning, Cond.code yX1_isBurning cX1_isBurning 2 (some .boolean), Cond.fieldLink RX1 35 "LanternWeirs$Fleet" "burning" "LLanternWeirs$Row;", Cond.methodLink RX1 89 yX1_isSoaked, Cond.instanceMethod yX1_isSoaked, Cond.selects RX1 yX1_isSoaked yX1_isSoaked, Cond.code yX1_isSoaked cX1_isSoaked 2 (some .boolean), Cond.fieldLink RX1 32 "LanternWeirs$Fleet" "wets" "LLanternWeirs$Row;", Cond.fieldLink RX1 16 "LanternWeirs$Fleet" "frames" "LLanternWeirs$Row;", Cond.static yX3_sprayTakenBy, Cond.code yX3_sprayTakenBy cX3_sprayTakenBy 1 (some .int), Cond.methodLink RX3 56 yX2_put, Cond.instanceMethod yX2_put]
def wsX3_light_r3 : List Cond := [Cond.selects RX2 yX2_put yX2_put, Cond.code yX2_put cX2_put 3 none, Cond.methodLink RX3 50 yX2_get]
def wsX3_light : List Cond := .code yX3_light cX3_light 2 (some .int) :: ((wsX3_light_r1 ++ (wsX3_light_r2 ++ wsX3_light_r3)) ++ wsX30 ++ wsX10 ++ wsX20 ++ (vx_atS RX3 34 "java/lang/IndexOutOfBoundsException" ["java/lang/RuntimeException", "java/lang/Exception"]).filter goodWord ++ (vx_atS RX3 75 "java/lang/IllegalStateException" ["java/lang/RuntimeException", "java/lang/Exception"]).filter goodWord)
def wsX3_blow_r1 : List Cond := [Cond.classLink RX3 30 "java/lang/IndexOutOfBoundsException", Cond.initialized "java/lang/IndexOutOfBoundsException", Cond.classLink RX3 71 "java/lang/IllegalStateException", Cond.initialized "java/lang/IllegalStateException", Cond.fieldLink RX3 19 "LanternWeirs" "fleet" "LLanternWeirs$Fleet;", Cond.fieldLink RX3 146 "LanternWeirs$Fleet" "burning" "LLanternWeirs$Row;", Cond.fieldLink RX3 149 "LanternWeirs$Fleet" "waxes" "LLanternWeirs$Row;", Cond.methodLink RX3 119 yX1_has, Cond.instanceMethod yX1_has, Cond.selects RX1 yX1_has yX1_has, Cond.initialized RX1, Cond.code yX1_has cX1_has 2 (some .boolean), Cond.fieldLink RX1 54 "LanternWeirs$Fleet" "size" "I", Cond.static yX3_isWithin, Cond.initialized RX3, Cond.code yX3_isWithin cX3_isWithin 3 (some .boolean), Cond.methodLink RX3 124 yX1_isAfloat, Cond.instanceMethod yX1_isAfloat, Cond.selects RX1 yX1_isAfloat yX1_isAfloat, Cond.code yX1_isAfloat cX1_isAfloat 2 (some .boolean), Cond.fieldLink RX1 38 "LanternWeirs$Fleet" "states" "LLanternWeirs$Row;", Cond.methodLink RX1 76 yX1_has, Cond.methodLink RX1 80 yX2_get, Cond.instanceMethod yX2_get]
def wsX3_blow_r2 : List Cond := [Cond.selects RX2 yX2_get yX2_get, Cond.initialized RX2, Cond.code yX2_get cX2_get 2 (some .int), Cond.fieldLink RX2 7 "LanternWeirs$Row" "cells" "[I", Cond.methodLink RX3 152 yX1_isBurning, Cond.instanceMethod yX1_isBurning, Cond.selects RX1 yX1_isBurning yX1_isBurning, Cond.code yX1_isBurning cX1_isBurning 2 (some .boolean), Cond.fieldLink RX1 35 "LanternWeirs$Fleet" "burning" "LLanternWeirs$Row;", Cond.methodLink RX3 56 yX2_put, Cond.instanceMethod yX2_put, Cond.selects RX2 yX2_put yX2_put, Cond.code yX2_put cX2_put 3 none, Cond.methodLink RX3 50 yX2_get]
def wsX3_blow : List Cond := .code yX3_blow cX3_blow 2 (some .int) :: ((wsX3_blow_r1 ++ wsX3_blow_r2) ++ wsX30 ++ wsX10 ++ wsX20 ++ (vx_atS RX3 34 "java/lang/IndexOutOfBoundsException" ["java/lang/RuntimeException", "java/lang/Exception"]).filter goodWord ++ (vx_atS RX3 75 "java/lang/IllegalStateException" ["java/lang/RuntimeException", "java/lang/Exception"]).filter goodWord)
def wsX3_told_r1 : List Cond := [Cond.classLink RX3 30 "java/lang/IndexOutOfBoundsException", Cond.initialized "java/lang/IndexOutOfBoundsException", Cond.fieldLink RX3 19 "LanternWeirs" "fleet" "LLanternWeirs$Fleet;", Cond.methodLink RX3 119 yX1_has, Cond.instanceMethod yX1_has, Cond.selects RX1 yX1_has yX1_has, Cond.initialized RX1, Cond.code yX1_has cX1_has 2 (some .boolean), Cond.fieldLink RX1 54 "LanternWeirs$Fleet" "size" "I", Cond.static yX3_isWithin, Cond.initialized RX3, Cond.code yX3_isWithin cX3_isWithin 3 (some .boolean), Cond.methodLink RX3 37 yX3_isWithin, Cond.methodLink RX3 159 yX1_fact, Cond.instanceMethod yX1_fact, Cond.selects RX1 yX1_fact yX1_fact, Cond.code yX1_fact cX1_fact 3 (some .int), Cond.fieldLink RX1 16 "LanternWeirs$Fleet" "frames" "LLanternWeirs$Row;", Cond.fieldLink RX1 20 "LanternWeirs$Fleet" "wishes" "LLanternWeirs$Row;", Cond.fieldLink RX1 23 "LanternWeirs$Fleet" "lanes" "LLanternWeirs$Row;", Cond.fieldLink RX1 26 "LanternWeirs$Fleet" "places" "LLanternWeirs$Row;", Cond.fieldLink RX1 29 "LanternWeirs$Fleet" "waxes" "LLanternWeirs$Row;", Cond.fieldLink RX1 32 "LanternWeirs$Fleet" "wets" "LLanternWeirs$Row;", Cond.fieldLink RX1 35 "LanternWeirs$Fleet" "burning" "LLanternWeirs$Row;"]
def wsX3_told_r2 : List Cond := [Cond.fieldLink RX1 38 "LanternWeirs$Fleet" "states" "LLanternWeirs$Row;", Cond.fieldLink RX1 41 "LanternWeirs$Fleet" "ends" "LLanternWeirs$Row;", Cond.methodLink RX1 80 yX2_get, Cond.instanceMethod yX2_get, Cond.selects RX2 yX2_get yX2_get, Cond.initialized RX2, Cond.code yX2_get cX2_get 2 (some .int), Cond.fieldLink RX2 7 "LanternWeirs$Row" "cells" "[I"]
def wsX3_told : List Cond := .code yX3_told cX3_told 3 (some .int) :: ((wsX3_told_r1 ++ wsX3_told_r2) ++ wsX30 ++ wsX10 ++ wsX20 ++ (vx_atS RX3 34 "java/lang/IndexOutOfBoundsException" ["java/lang/RuntimeException", "java/lang/Exception"]).filter goodWord)
def wsX3_nextWeir_r1 : List Cond := [Cond.fieldLink RX3 19 "LanternWeirs" "fleet" "LLanternWeirs$Fleet;", Cond.fieldLink RX3 132 "LanternWeirs$Fleet" "places" "LLanternWeirs$Row;", Cond.fieldLink RX3 10 "LanternWeirs" "bed" "LLanternWeirs$Bed;", Cond.fieldLink RX3 68 "LanternWeirs$Bed" "sprays" "LLanternWeirs$Row;", Cond.methodLink RX3 124 yX1_isAfloat, Cond.instanceMethod yX1_isAfloat, Cond.selects RX1 yX1_isAfloat yX1_isAfloat, Cond.initialized RX1, Cond.code yX1_isAfloat cX1_isAfloat 2 (some .boolean), Cond.fieldLink RX1 38 "LanternWeirs$Fleet" "states" "LLanternWeirs$Row;", Cond.methodLink RX1 76 yX1_has, Cond.instanceMethod yX1_has, Cond.selects RX1 yX1_has yX1_has, Cond.code yX1_has cX1_has 2 (some .boolean), Cond.fieldLink RX1 54 "LanternWeirs$Fleet" "size" "I", Cond.static yX3_isWithin, Cond.initialized RX3, Cond.code yX3_isWithin cX3_isWithin 3 (some .boolean), Cond.methodLink RX1 80 yX2_get, Cond.instanceMethod yX2_get, Cond.selects RX2 yX2_get yX2_get, Cond.initialized RX2, Cond.code yX2_get cX2_get 2 (some .int), Cond.fieldLink RX2 7 "LanternWeirs$Row" "cells" "[I"]
def wsX3_nextWeir_r2 : List Cond := [Cond.methodLink RX3 50 yX2_get]
def wsX3_nextWeir : List Cond := .code yX3_nextWeir cX3_nextWeir 3 (some .int) :: ((wsX3_nextWeir_r1 ++ wsX3_nextWeir_r2) ++ wsX30 ++ wsX10 ++ wsX00 ++ wsX20)
def wsX3_next_r1 : List Cond := [Cond.classLink RX3 30 "java/lang/IndexOutOfBoundsException", Cond.initialized "java/lang/IndexOutOfBoundsException", Cond.fieldLink RX3 19 "LanternWeirs" "fleet" "LLanternWeirs$Fleet;", Cond.methodLink RX3 119 yX1_has, Cond.instanceMethod yX1_has, Cond.selects RX1 yX1_has yX1_has, Cond.initialized RX1, Cond.code yX1_has cX1_has 2 (some .boolean), Cond.fieldLink RX1 54 "LanternWeirs$Fleet" "size" "I", Cond.static yX3_isWithin, Cond.initialized RX3, Cond.code yX3_isWithin cX3_isWithin 3 (some .boolean), Cond.methodLink RX3 162 yX3_nextWeir, Cond.instanceMethod yX3_nextWeir, Cond.selects RX3 yX3_nextWeir yX3_nextWeir, Cond.code yX3_nextWeir cX3_nextWeir 3 (some .int), Cond.fieldLink RX3 132 "LanternWeirs$Fleet" "places" "LLanternWeirs$Row;", Cond.fieldLink RX3 10 "LanternWeirs" "bed" "LLanternWeirs$Bed;", Cond.fieldLink RX3 68 "LanternWeirs$Bed" "sprays" "LLanternWeirs$Row;", Cond.methodLink RX3 124 yX1_isAfloat, Cond.instanceMethod yX1_isAfloat, Cond.selects RX1 yX1_isAfloat yX1_isAfloat, Cond.code yX1_isAfloat cX1_isAfloat 2 (some .boolean), Cond.fieldLink RX1 38 "LanternWeirs$Fleet" "states" "LLanternWeirs$Row;"]
def wsX3_next_r2 : List Cond := [Cond.methodLink RX1 76 yX1_has, Cond.methodLink RX1 80 yX2_get, Cond.instanceMethod yX2_get, Cond.selects RX2 yX2_get yX2_get, Cond.initialized RX2, Cond.code yX2_get cX2_get 2 (some .int), Cond.fieldLink RX2 7 "LanternWeirs$Row" "cells" "[I", Cond.methodLink RX3 50 yX2_get]
def wsX3_next : List Cond := .code yX3_next cX3_next 2 (some .int) :: ((wsX3_next_r1 ++ wsX3_next_r2) ++ wsX30 ++ wsX10 ++ wsX00 ++ wsX20 ++ (vx_atS RX3 34 "java/lang/IndexOutOfBoundsException" ["java/lang/RuntimeException", "java/lang/Exception"]).filter goodWord)
def wsX3_counted_r1 : List Cond := [Cond.fieldLink RX3 19 "LanternWeirs" "fleet" "LLanternWeirs$Fleet;", Cond.fieldLink RX3 200 "LanternWeirs$Fleet" "minute" "I", Cond.fieldLink RX3 110 "LanternWeirs$Fleet" "size" "I", Cond.fieldLink RX3 10 "LanternWeirs" "bed" "LLanternWeirs$Bed;", Cond.fieldLink RX3 64 "LanternWeirs$Bed" "weirs" "I", Cond.fieldLink RX3 82 "LanternWeirs$Bed" "netCount" "I", Cond.methodLink RX3 172 yX1_tally, Cond.instanceMethod yX1_tally, Cond.selects RX1 yX1_tally yX1_tally, Cond.initialized RX1, Cond.code yX1_tally cX1_tally 4 (some .int), Cond.fieldLink RX1 54 "LanternWeirs$Fleet" "size" "I", Cond.methodLink RX1 96 yX1_share, Cond.instanceMethod yX1_share, Cond.selects RX1 yX1_share yX1_share, Cond.code yX1_share cX1_share 5 (some .int), Cond.fieldLink RX1 38 "LanternWeirs$Fleet" "states" "LLanternWeirs$Row;", Cond.fieldLink RX1 35 "LanternWeirs$Fleet" "burning" "LLanternWeirs$Row;", Cond.fieldLink RX1 20 "LanternWeirs$Fleet" "wishes" "LLanternWeirs$Row;", Cond.methodLink RX1 80 yX2_get, Cond.instanceMethod yX2_get, Cond.selects RX2 yX2_get yX2_get, Cond.initialized RX2, Cond.code yX2_get cX2_get 2 (some .int)]
def wsX3_counted_r2 : List Cond := [Cond.fieldLink RX2 7 "LanternWeirs$Row" "cells" "[I"]
def wsX3_counted : List Cond := .code yX3_counted cX3_counted 2 (some .int) :: ((wsX3_counted_r1 ++ wsX3_counted_r2) ++ wsX30 ++ wsX10 ++ wsX00 ++ wsX20)
def wsX3_count_r1 : List Cond := [Cond.classLink RX3 30 "java/lang/IndexOutOfBoundsException", Cond.initialized "java/lang/IndexOutOfBoundsException", Cond.methodLink RX3 37 yX3_isWithin, Cond.static yX3_isWithin, Cond.initialized RX3, Cond.code yX3_isWithin cX3_isWithin 3 (some .boolean), Cond.methodLink RX3 167 yX3_counted, Cond.instanceMethod yX3_counted, Cond.selects RX3 yX3_counted yX3_counted, Cond.code yX3_counted cX3_counted 2 (some .int), Cond.fieldLink RX3 19 "LanternWeirs" "fleet" "LLanternWeirs$Fleet;", Cond.fieldLink RX3 200 "LanternWeirs$Fleet" "minute" "I", Cond.fieldLink RX3 110 "LanternWeirs$Fleet" "size" "I", Cond.fieldLink RX3 10 "LanternWeirs" "bed" "LLanternWeirs$Bed;", Cond.fieldLink RX3 64 "LanternWeirs$Bed" "weirs" "I", Cond.fieldLink RX3 82 "LanternWeirs$Bed" "netCount" "I", Cond.methodLink RX3 172 yX1_tally, Cond.instanceMethod yX1_tally, Cond.selects RX1 yX1_tally yX1_tally, Cond.initialized RX1, Cond.code yX1_tally cX1_tally 4 (some .int), Cond.fieldLink RX1 54 "LanternWeirs$Fleet" "size" "I", Cond.methodLink RX1 96 yX1_share, Cond.instanceMethod yX1_share]
def wsX3_count_r2 : List Cond := [Cond.selects RX1 yX1_share yX1_share, Cond.code yX1_share cX1_share 5 (some .int), Cond.fieldLink RX1 38 "LanternWeirs$Fleet" "states" "LLanternWeirs$Row;", Cond.fieldLink RX1 35 "LanternWeirs$Fleet" "burning" "LLanternWeirs$Row;", Cond.fieldLink RX1 20 "LanternWeirs$Fleet" "wishes" "LLanternWeirs$Row;", Cond.methodLink RX1 80 yX2_get, Cond.instanceMethod yX2_get, Cond.selects RX2 yX2_get yX2_get, Cond.initialized RX2, Cond.code yX2_get cX2_get 2 (some .int), Cond.fieldLink RX2 7 "LanternWeirs$Row" "cells" "[I"]
def wsX3_count : List Cond := .code yX3_count cX3_count 2 (some .int) :: ((wsX3_count_r1 ++ wsX3_count_r2) ++ wsX30 ++ wsX10 ++ wsX00 ++ wsX20 ++ (vx_atS RX3 34 "java/lang/IndexOutOfBoundsException" ["java/lang/RuntimeException", "java/lang/Exception"]).filter goodWord)
def wsX3_pass_r1 : List Cond := [Cond.classLink RX3 41 "java/lang/IllegalArgumentException", Cond.initialized "java/lang/IllegalArgumentException", Cond.fieldLink RX3 19 "LanternWeirs" "fleet" "LLanternWeirs$Fleet;", Cond.fieldLink RX3 10 "LanternWeirs" "bed" "LLanternWeirs$Bed;", Cond.methodLink RX3 37 yX3_isWithin, Cond.static yX3_isWithin, Cond.initialized RX3, Cond.code yX3_isWithin cX3_isWithin 3 (some .boolean), Cond.methodLink RX3 172 yX1_tally, Cond.instanceMethod yX1_tally, Cond.selects RX1 yX1_tally yX1_tally, Cond.initialized RX1, Cond.code yX1_tally cX1_tally 4 (some .int), Cond.fieldLink RX1 54 "LanternWeirs$Fleet" "size" "I", Cond.methodLink RX1 96 yX1_share, Cond.instanceMethod yX1_share, Cond.selects RX1 yX1_share yX1_share, Cond.code yX1_share cX1_share 5 (some .int), Cond.fieldLink RX1 38 "LanternWeirs$Fleet" "states" "LLanternWeirs$Row;", Cond.fieldLink RX1 35 "LanternWeirs$Fleet" "burning" "LLanternWeirs$Row;", Cond.fieldLink RX1 20 "LanternWeirs$Fleet" "wishes" "LLanternWeirs$Row;", Cond.methodLink RX1 80 yX2_get, Cond.instanceMethod yX2_get, Cond.selects RX2 yX2_get yX2_get]
def wsX3_pass_r2 : List Cond := [Cond.initialized RX2, Cond.code yX2_get cX2_get 2 (some .int), Cond.fieldLink RX2 7 "LanternWeirs$Row" "cells" "[I", Cond.methodLink RX3 175 yX1_passMinutes, Cond.instanceMethod yX1_passMinutes, Cond.selects RX1 yX1_passMinutes yX1_passMinutes, Cond.code yX1_passMinutes cX1_passMinutes 6 none, Cond.fieldLink RX1 47 "LanternWeirs$Fleet" "queue" "LLanternWeirs$Row;", Cond.fieldLink RX1 58 "LanternWeirs$Fleet" "minute" "I", Cond.methodLink RX1 100 yX1_lineUp, Cond.instanceMethod yX1_lineUp, Cond.selects RX1 yX1_lineUp yX1_lineUp, Cond.code yX1_lineUp cX1_lineUp 6 (some .int), Cond.fieldLink RX1 26 "LanternWeirs$Fleet" "places" "LLanternWeirs$Row;", Cond.fieldLink RX1 23 "LanternWeirs$Fleet" "lanes" "LLanternWeirs$Row;", Cond.methodLink RX1 111 yX1_isAfloat, Cond.instanceMethod yX1_isAfloat, Cond.selects RX1 yX1_isAfloat yX1_isAfloat, Cond.code yX1_isAfloat cX1_isAfloat 2 (some .boolean), Cond.methodLink RX1 76 yX1_has, Cond.instanceMethod yX1_has, Cond.selects RX1 yX1_has yX1_has, Cond.code yX1_has cX1_has 2 (some .boolean), Cond.methodLink RX1 61 yX2_put]
def wsX3_pass_r3 : List Cond := [Cond.instanceMethod yX2_put, Cond.selects RX2 yX2_put yX2_put, Cond.code yX2_put cX2_put 3 none, Cond.methodLink RX1 104 yX1_drift, Cond.instanceMethod yX1_drift, Cond.selects RX1 yX1_drift yX1_drift, Cond.code yX1_drift cX1_drift 7 none, Cond.fieldLink RX1 114 "LanternWeirs$Bed" "currents" "LLanternWeirs$Row;", Cond.fieldLink RX1 129 "LanternWeirs$Bed" "sprays" "LLanternWeirs$Row;", Cond.methodLink RX1 119 yX1_catchesAhead, Cond.instanceMethod yX1_catchesAhead, Cond.selects RX1 yX1_catchesAhead yX1_catchesAhead, Cond.code yX1_catchesAhead cX1_catchesAhead 4 (some .boolean), Cond.fieldLink RX1 16 "LanternWeirs$Fleet" "frames" "LLanternWeirs$Row;", Cond.fieldLink RX1 44 "LanternWeirs$Fleet" "crowd" "LLanternWeirs$Row;", Cond.methodLink RX1 92 yX1_cell, Cond.static yX1_cell, Cond.code yX1_cell cX1_cell 3 (some .int), Cond.methodLink RX1 122 yX1_moveTo, Cond.instanceMethod yX1_moveTo, Cond.selects RX1 yX1_moveTo yX1_moveTo, Cond.code yX1_moveTo cX1_moveTo 4 none, Cond.methodLink RX1 69 yX1_crowdBy, Cond.instanceMethod yX1_crowdBy]
def wsX3_pass_r4 : List Cond := [Cond.selects RX1 yX1_crowdBy yX1_crowdBy, Cond.code yX1_crowdBy cX1_crowdBy 4 none, Cond.methodLink RX1 126 yX1_leave, Cond.instanceMethod yX1_leave, Cond.selects RX1 yX1_leave yX1_leave, Cond.code yX1_leave cX1_leave 3 none, Cond.fieldLink RX1 41 "LanternWeirs$Fleet" "ends" "LLanternWeirs$Row;", Cond.methodLink RX1 132 yX1_meetWeir, Cond.instanceMethod yX1_meetWeir, Cond.selects RX1 yX1_meetWeir yX1_meetWeir, Cond.code yX1_meetWeir cX1_meetWeir 6 none, Cond.fieldLink RX1 32 "LanternWeirs$Fleet" "wets" "LLanternWeirs$Row;", Cond.methodLink RX1 89 yX1_isSoaked, Cond.instanceMethod yX1_isSoaked, Cond.selects RX1 yX1_isSoaked yX1_isSoaked, Cond.code yX1_isSoaked cX1_isSoaked 2 (some .boolean), Cond.static yX3_sprayTakenBy, Cond.code yX3_sprayTakenBy cX3_sprayTakenBy 1 (some .int), Cond.methodLink RX1 135 yX0_hasNet, Cond.instanceMethod yX0_hasNet, Cond.selects RX0 yX0_hasNet yX0_hasNet, Cond.initialized RX0, Cond.code yX0_hasNet cX0_hasNet 3 (some .boolean), Cond.fieldLink RX0 23 "LanternWeirs$Bed" "nets" "LLanternWeirs$Row;"]
def wsX3_pass_r5 : List Cond := [Cond.methodLink RX0 37 yX2_get, Cond.methodLink RX1 108 yX1_useWax, Cond.instanceMethod yX1_useWax, Cond.selects RX1 yX1_useWax yX1_useWax, Cond.code yX1_useWax cX1_useWax 3 none, Cond.fieldLink RX1 29 "LanternWeirs$Fleet" "waxes" "LLanternWeirs$Row;", Cond.methodLink RX1 86 yX1_isBurning, Cond.instanceMethod yX1_isBurning, Cond.selects RX1 yX1_isBurning yX1_isBurning, Cond.code yX1_isBurning cX1_isBurning 2 (some .boolean)]
def wsX3_pass : List Cond := .code yX3_pass cX3_pass 3 (some .int) :: ((wsX3_pass_r1 ++ (wsX3_pass_r2 ++ (wsX3_pass_r3 ++ (wsX3_pass_r4 ++ wsX3_pass_r5)))) ++ wsX30 ++ wsX10 ++ wsX20 ++ wsX00 ++ (vx_atS RX3 45 "java/lang/IllegalArgumentException" ["java/lang/RuntimeException", "java/lang/Exception"]).filter goodWord)
def wsX3_burns_r1 : List Cond := [Cond.classLink RX3 30 "java/lang/IndexOutOfBoundsException", Cond.initialized "java/lang/IndexOutOfBoundsException", Cond.fieldLink RX3 19 "LanternWeirs" "fleet" "LLanternWeirs$Fleet;", Cond.fieldLink RX3 23 "LanternWeirs" "dream" "LLanternWeirs$Fleet;", Cond.fieldLink RX3 10 "LanternWeirs" "bed" "LLanternWeirs$Bed;", Cond.methodLink RX3 119 yX1_has, Cond.instanceMethod yX1_has, Cond.selects RX1 yX1_has yX1_has, Cond.initialized RX1, Cond.code yX1_has cX1_has 2 (some .boolean), Cond.fieldLink RX1 54 "LanternWeirs$Fleet" "size" "I", Cond.static yX3_isWithin, Cond.initialized RX3, Cond.code yX3_isWithin cX3_isWithin 3 (some .boolean), Cond.methodLink RX3 179 yX1_copy, Cond.instanceMethod yX1_copy, Cond.selects RX1 yX1_copy yX1_copy, Cond.code yX1_copy cX1_copy 2 none, Cond.fieldLink RX1 16 "LanternWeirs$Fleet" "frames" "LLanternWeirs$Row;", Cond.fieldLink RX1 20 "LanternWeirs$Fleet" "wishes" "LLanternWeirs$Row;", Cond.fieldLink RX1 23 "LanternWeirs$Fleet" "lanes" "LLanternWeirs$Row;", Cond.fieldLink RX1 26 "LanternWeirs$Fleet" "places" "LLanternWeirs$Row;", Cond.fieldLink RX1 29 "LanternWeirs$Fleet" "waxes" "LLanternWeirs$Row;", Cond.fieldLink RX1 32 "LanternWeirs$Fleet" "wets" "LLanternWeirs$Row;"]
def wsX3_burns_r2 : List Cond := [Cond.fieldLink RX1 35 "LanternWeirs$Fleet" "burning" "LLanternWeirs$Row;", Cond.fieldLink RX1 38 "LanternWeirs$Fleet" "states" "LLanternWeirs$Row;", Cond.fieldLink RX1 41 "LanternWeirs$Fleet" "ends" "LLanternWeirs$Row;", Cond.fieldLink RX1 44 "LanternWeirs$Fleet" "crowd" "LLanternWeirs$Row;", Cond.fieldLink RX1 58 "LanternWeirs$Fleet" "minute" "I", Cond.methodLink RX1 50 yX2_copy, Cond.instanceMethod yX2_copy, Cond.selects RX2 yX2_copy yX2_copy, Cond.initialized RX2, Cond.code yX2_copy cX2_copy 3 none, Cond.fieldLink RX2 7 "LanternWeirs$Row" "cells" "[I", Cond.methodLink RX2 13 yX2_get, Cond.instanceMethod yX2_get, Cond.selects RX2 yX2_get yX2_get, Cond.code yX2_get cX2_get 2 (some .int), Cond.methodLink RX3 152 yX1_isBurning, Cond.instanceMethod yX1_isBurning, Cond.selects RX1 yX1_isBurning yX1_isBurning, Cond.code yX1_isBurning cX1_isBurning 2 (some .boolean), Cond.methodLink RX1 76 yX1_has, Cond.methodLink RX1 80 yX2_get, Cond.methodLink RX3 175 yX1_passMinutes, Cond.instanceMethod yX1_passMinutes, Cond.selects RX1 yX1_passMinutes yX1_passMinutes]
def wsX3_burns_r3 : List Cond := [Cond.code yX1_passMinutes cX1_passMinutes 6 none, Cond.fieldLink RX1 47 "LanternWeirs$Fleet" "queue" "LLanternWeirs$Row;", Cond.methodLink RX1 100 yX1_lineUp, Cond.instanceMethod yX1_lineUp, Cond.selects RX1 yX1_lineUp yX1_lineUp, Cond.code yX1_lineUp cX1_lineUp 6 (some .int), Cond.methodLink RX1 111 yX1_isAfloat, Cond.instanceMethod yX1_isAfloat, Cond.selects RX1 yX1_isAfloat yX1_isAfloat, Cond.code yX1_isAfloat cX1_isAfloat 2 (some .boolean), Cond.methodLink RX1 61 yX2_put, Cond.instanceMethod yX2_put, Cond.selects RX2 yX2_put yX2_put, Cond.code yX2_put cX2_put 3 none, Cond.methodLink RX1 104 yX1_drift, Cond.instanceMethod yX1_drift, Cond.selects RX1 yX1_drift yX1_drift, Cond.code yX1_drift cX1_drift 7 none, Cond.fieldLink RX1 114 "LanternWeirs$Bed" "currents" "LLanternWeirs$Row;", Cond.fieldLink RX1 129 "LanternWeirs$Bed" "sprays" "LLanternWeirs$Row;", Cond.methodLink RX1 119 yX1_catchesAhead, Cond.instanceMethod yX1_catchesAhead, Cond.selects RX1 yX1_catchesAhead yX1_catchesAhead, Cond.code yX1_catchesAhead cX1_catchesAhead 4 (some .boolean)]
def wsX3_burns_r4 : List Cond := [Cond.methodLink RX1 92 yX1_cell, Cond.static yX1_cell, Cond.code yX1_cell cX1_cell 3 (some .int), Cond.methodLink RX1 122 yX1_moveTo, Cond.instanceMethod yX1_moveTo, Cond.selects RX1 yX1_moveTo yX1_moveTo, Cond.code yX1_moveTo cX1_moveTo 4 none, Cond.methodLink RX1 69 yX1_crowdBy, Cond.instanceMethod yX1_crowdBy, Cond.selects RX1 yX1_crowdBy yX1_crowdBy, Cond.code yX1_crowdBy cX1_crowdBy 4 none, Cond.methodLink RX1 126 yX1_leave, Cond.instanceMethod yX1_leave, Cond.selects RX1 yX1_leave yX1_leave, Cond.code yX1_leave cX1_leave 3 none, Cond.methodLink RX1 132 yX1_meetWeir, Cond.instanceMethod yX1_meetWeir, Cond.selects RX1 yX1_meetWeir yX1_meetWeir, Cond.code yX1_meetWeir cX1_meetWeir 6 none, Cond.methodLink RX1 89 yX1_isSoaked, Cond.instanceMethod yX1_isSoaked, Cond.selects RX1 yX1_isSoaked yX1_isSoaked, Cond.code yX1_isSoaked cX1_isSoaked 2 (some .boolean), Cond.static yX3_sprayTakenBy]
def wsX3_burns_r5 : List Cond := [Cond.code yX3_sprayTakenBy cX3_sprayTakenBy 1 (some .int), Cond.methodLink RX1 135 yX0_hasNet, Cond.instanceMethod yX0_hasNet, Cond.selects RX0 yX0_hasNet yX0_hasNet, Cond.initialized RX0, Cond.code yX0_hasNet cX0_hasNet 3 (some .boolean), Cond.fieldLink RX0 23 "LanternWeirs$Bed" "nets" "LLanternWeirs$Row;", Cond.methodLink RX0 37 yX2_get, Cond.methodLink RX1 108 yX1_useWax, Cond.instanceMethod yX1_useWax, Cond.selects RX1 yX1_useWax yX1_useWax, Cond.code yX1_useWax cX1_useWax 3 none, Cond.methodLink RX1 86 yX1_isBurning]
def wsX3_burns : List Cond := .code yX3_burns cX3_burns 3 (some .int) :: ((wsX3_burns_r1 ++ (wsX3_burns_r2 ++ (wsX3_burns_r3 ++ (wsX3_burns_r4 ++ wsX3_burns_r5)))) ++ wsX30 ++ wsX10 ++ wsX20 ++ wsX00 ++ (vx_atS RX3 34 "java/lang/IndexOutOfBoundsException" ["java/lang/RuntimeException", "java/lang/Exception"]).filter goodWord)
def wsX3_foresee_r1 : List Cond := [Cond.classLink RX3 41 "java/lang/IllegalArgumentException", Cond.initialized "java/lang/IllegalArgumentException", Cond.classLink RX3 30 "java/lang/IndexOutOfBoundsException", Cond.initialized "java/lang/IndexOutOfBoundsException", Cond.fieldLink RX3 23 "LanternWeirs" "dream" "LLanternWeirs$Fleet;", Cond.fieldLink RX3 19 "LanternWeirs" "fleet" "LLanternWeirs$Fleet;", Cond.fieldLink RX3 10 "LanternWeirs" "bed" "LLanternWeirs$Bed;", Cond.methodLink RX3 37 yX3_isWithin, Cond.static yX3_isWithin, Cond.initialized RX3, Cond.code yX3_isWithin cX3_isWithin 3 (some .boolean), Cond.methodLink RX3 179 yX1_copy, Cond.instanceMethod yX1_copy, Cond.selects RX1 yX1_copy yX1_copy, Cond.initialized RX1, Cond.code yX1_copy cX1_copy 2 none, Cond.fieldLink RX1 16 "LanternWeirs$Fleet" "frames" "LLanternWeirs$Row;", Cond.fieldLink RX1 20 "LanternWeirs$Fleet" "wishes" "LLanternWeirs$Row;", Cond.fieldLink RX1 23 "LanternWeirs$Fleet" "lanes" "LLanternWeirs$Row;", Cond.fieldLink RX1 26 "LanternWeirs$Fleet" "places" "LLanternWeirs$Row;", Cond.fieldLink RX1 29 "LanternWeirs$Fleet" "waxes" "LLanternWeirs$Row;", Cond.fieldLink RX1 32 "LanternWeirs$Fleet" "wets" "LLanternWeirs$Row;", Cond.fieldLink RX1 35 "LanternWeirs$Fleet" "burning" "LLanternWeirs$Row;", Cond.fieldLink RX1 38 "LanternWeirs$Fleet" "states" "LLanternWeirs$Row;"]
def wsX3_foresee_r2 : List Cond := [Cond.fieldLink RX1 41 "LanternWeirs$Fleet" "ends" "LLanternWeirs$Row;", Cond.fieldLink RX1 44 "LanternWeirs$Fleet" "crowd" "LLanternWeirs$Row;", Cond.fieldLink RX1 54 "LanternWeirs$Fleet" "size" "I", Cond.fieldLink RX1 58 "LanternWeirs$Fleet" "minute" "I", Cond.methodLink RX1 50 yX2_copy, Cond.instanceMethod yX2_copy, Cond.selects RX2 yX2_copy yX2_copy, Cond.initialized RX2, Cond.code yX2_copy cX2_copy 3 none, Cond.fieldLink RX2 7 "LanternWeirs$Row" "cells" "[I", Cond.methodLink RX2 13 yX2_get, Cond.instanceMethod yX2_get, Cond.selects RX2 yX2_get yX2_get, Cond.code yX2_get cX2_get 2 (some .int), Cond.methodLink RX3 175 yX1_passMinutes, Cond.instanceMethod yX1_passMinutes, Cond.selects RX1 yX1_passMinutes yX1_passMinutes, Cond.code yX1_passMinutes cX1_passMinutes 6 none, Cond.fieldLink RX1 47 "LanternWeirs$Fleet" "queue" "LLanternWeirs$Row;", Cond.methodLink RX1 100 yX1_lineUp, Cond.instanceMethod yX1_lineUp, Cond.selects RX1 yX1_lineUp yX1_lineUp, Cond.code yX1_lineUp cX1_lineUp 6 (some .int), Cond.methodLink RX1 111 yX1_isAfloat]
def wsX3_foresee_r3 : List Cond := [Cond.instanceMethod yX1_isAfloat, Cond.selects RX1 yX1_isAfloat yX1_isAfloat, Cond.code yX1_isAfloat cX1_isAfloat 2 (some .boolean), Cond.methodLink RX1 76 yX1_has, Cond.instanceMethod yX1_has, Cond.selects RX1 yX1_has yX1_has, Cond.code yX1_has cX1_has 2 (some .boolean), Cond.methodLink RX1 80 yX2_get, Cond.methodLink RX1 61 yX2_put, Cond.instanceMethod yX2_put, Cond.selects RX2 yX2_put yX2_put, Cond.code yX2_put cX2_put 3 none, Cond.methodLink RX1 104 yX1_drift, Cond.instanceMethod yX1_drift, Cond.selects RX1 yX1_drift yX1_drift, Cond.code yX1_drift cX1_drift 7 none, Cond.fieldLink RX1 114 "LanternWeirs$Bed" "currents" "LLanternWeirs$Row;", Cond.fieldLink RX1 129 "LanternWeirs$Bed" "sprays" "LLanternWeirs$Row;", Cond.methodLink RX1 119 yX1_catchesAhead, Cond.instanceMethod yX1_catchesAhead, Cond.selects RX1 yX1_catchesAhead yX1_catchesAhead, Cond.code yX1_catchesAhead cX1_catchesAhead 4 (some .boolean), Cond.methodLink RX1 92 yX1_cell, Cond.static yX1_cell]
def wsX3_foresee_r4 : List Cond := [Cond.code yX1_cell cX1_cell 3 (some .int), Cond.methodLink RX1 122 yX1_moveTo, Cond.instanceMethod yX1_moveTo, Cond.selects RX1 yX1_moveTo yX1_moveTo, Cond.code yX1_moveTo cX1_moveTo 4 none, Cond.methodLink RX1 69 yX1_crowdBy, Cond.instanceMethod yX1_crowdBy, Cond.selects RX1 yX1_crowdBy yX1_crowdBy, Cond.code yX1_crowdBy cX1_crowdBy 4 none, Cond.methodLink RX1 126 yX1_leave, Cond.instanceMethod yX1_leave, Cond.selects RX1 yX1_leave yX1_leave, Cond.code yX1_leave cX1_leave 3 none, Cond.methodLink RX1 132 yX1_meetWeir, Cond.instanceMethod yX1_meetWeir, Cond.selects RX1 yX1_meetWeir yX1_meetWeir, Cond.code yX1_meetWeir cX1_meetWeir 6 none, Cond.methodLink RX1 89 yX1_isSoaked, Cond.instanceMethod yX1_isSoaked, Cond.selects RX1 yX1_isSoaked yX1_isSoaked, Cond.code yX1_isSoaked cX1_isSoaked 2 (some .boolean), Cond.static yX3_sprayTakenBy, Cond.code yX3_sprayTakenBy cX3_sprayTakenBy 1 (some .int), Cond.methodLink RX1 135 yX0_hasNet]
def wsX3_foresee_r5 : List Cond := [Cond.instanceMethod yX0_hasNet, Cond.selects RX0 yX0_hasNet yX0_hasNet, Cond.initialized RX0, Cond.code yX0_hasNet cX0_hasNet 3 (some .boolean), Cond.fieldLink RX0 23 "LanternWeirs$Bed" "nets" "LLanternWeirs$Row;", Cond.methodLink RX0 37 yX2_get, Cond.methodLink RX1 108 yX1_useWax, Cond.instanceMethod yX1_useWax, Cond.selects RX1 yX1_useWax yX1_useWax, Cond.code yX1_useWax cX1_useWax 3 none, Cond.methodLink RX1 86 yX1_isBurning, Cond.instanceMethod yX1_isBurning, Cond.selects RX1 yX1_isBurning yX1_isBurning, Cond.code yX1_isBurning cX1_isBurning 2 (some .boolean), Cond.methodLink RX3 172 yX1_tally, Cond.instanceMethod yX1_tally, Cond.selects RX1 yX1_tally yX1_tally, Cond.code yX1_tally cX1_tally 4 (some .int), Cond.methodLink RX1 96 yX1_share, Cond.instanceMethod yX1_share, Cond.selects RX1 yX1_share yX1_share, Cond.code yX1_share cX1_share 5 (some .int)]
def wsX3_foresee : List Cond := .code yX3_foresee cX3_foresee 3 (some .int) :: ((wsX3_foresee_r1 ++ (wsX3_foresee_r2 ++ (wsX3_foresee_r3 ++ (wsX3_foresee_r4 ++ wsX3_foresee_r5)))) ++ wsX30 ++ wsX10 ++ wsX20 ++ wsX00 ++ (vx_atS RX3 45 "java/lang/IllegalArgumentException" ["java/lang/RuntimeException", "java/lang/Exception"]).filter goodWord ++ (vx_atS RX3 34 "java/lang/IndexOutOfBoundsException" ["java/lang/RuntimeException", "java/lang/Exception"]).filter goodWord)
def wsX3_minutesToNet_r1 : List Cond := [Cond.fieldLink RX3 23 "LanternWeirs" "dream" "LLanternWeirs$Fleet;", Cond.fieldLink RX3 19 "LanternWeirs" "fleet" "LLanternWeirs$Fleet;", Cond.fieldLink RX3 10 "LanternWeirs" "bed" "LLanternWeirs$Bed;", Cond.fieldLink RX3 203 "LanternWeirs$Fleet" "states" "LLanternWeirs$Row;", Cond.methodLink RX3 179 yX1_copy, Cond.instanceMethod yX1_copy, Cond.selects RX1 yX1_copy yX1_copy, Cond.initialized RX1, Cond.code yX1_copy cX1_copy 2 none, Cond.fieldLink RX1 16 "LanternWeirs$Fleet" "frames" "LLanternWeirs$Row;", Cond.fieldLink RX1 20 "LanternWeirs$Fleet" "wishes" "LLanternWeirs$Row;", Cond.fieldLink RX1 23 "LanternWeirs$Fleet" "lanes" "LLanternWeirs$Row;", Cond.fieldLink RX1 26 "LanternWeirs$Fleet" "places" "LLanternWeirs$Row;", Cond.fieldLink RX1 29 "LanternWeirs$Fleet" "waxes" "LLanternWeirs$Row;", Cond.fieldLink RX1 32 "LanternWeirs$Fleet" "wets" "LLanternWeirs$Row;", Cond.fieldLink RX1 35 "LanternWeirs$Fleet" "burning" "LLanternWeirs$Row;", Cond.fieldLink RX1 38 "LanternWeirs$Fleet" "states" "LLanternWeirs$Row;", Cond.fieldLink RX1 41 "LanternWeirs$Fleet" "ends" "LLanternWeirs$Row;", Cond.fieldLink RX1 44 "LanternWeirs$Fleet" "crowd" "LLanternWeirs$Row;", Cond.fieldLink RX1 54 "LanternWeirs$Fleet" "size" "I", Cond.fieldLink RX1 58 "LanternWeirs$Fleet" "minute" "I", Cond.methodLink RX1 50 yX2_copy, Cond.instanceMethod yX2_copy, Cond.selects RX2 yX2_copy yX2_copy]
def wsX3_minutesToNet_r2 : List Cond := [Cond.initialized RX2, Cond.code yX2_copy cX2_copy 3 none, Cond.fieldLink RX2 7 "LanternWeirs$Row" "cells" "[I", Cond.methodLink RX2 13 yX2_get, Cond.instanceMethod yX2_get, Cond.selects RX2 yX2_get yX2_get, Cond.code yX2_get cX2_get 2 (some .int), Cond.methodLink RX3 115 yX1_add, Cond.instanceMethod yX1_add, Cond.selects RX1 yX1_add yX1_add, Cond.code yX1_add cX1_add 6 (some .int), Cond.methodLink RX1 61 yX2_put, Cond.instanceMethod yX2_put, Cond.selects RX2 yX2_put yX2_put, Cond.code yX2_put cX2_put 3 none, Cond.static yX3_waxOf, Cond.initialized RX3, Cond.code yX3_waxOf cX3_waxOf 1 (some .int), Cond.methodLink RX1 69 yX1_crowdBy, Cond.instanceMethod yX1_crowdBy, Cond.selects RX1 yX1_crowdBy yX1_crowdBy, Cond.code yX1_crowdBy cX1_crowdBy 4 none, Cond.methodLink RX1 80 yX2_get, Cond.methodLink RX1 92 yX1_cell]
def wsX3_minutesToNet_r3 : List Cond := [Cond.static yX1_cell, Cond.code yX1_cell cX1_cell 3 (some .int), Cond.methodLink RX3 152 yX1_isBurning, Cond.instanceMethod yX1_isBurning, Cond.selects RX1 yX1_isBurning yX1_isBurning, Cond.code yX1_isBurning cX1_isBurning 2 (some .boolean), Cond.methodLink RX1 76 yX1_has, Cond.instanceMethod yX1_has, Cond.selects RX1 yX1_has yX1_has, Cond.code yX1_has cX1_has 2 (some .boolean), Cond.static yX3_isWithin, Cond.code yX3_isWithin cX3_isWithin 3 (some .boolean), Cond.methodLink RX3 175 yX1_passMinutes, Cond.instanceMethod yX1_passMinutes, Cond.selects RX1 yX1_passMinutes yX1_passMinutes, Cond.code yX1_passMinutes cX1_passMinutes 6 none, Cond.fieldLink RX1 47 "LanternWeirs$Fleet" "queue" "LLanternWeirs$Row;", Cond.methodLink RX1 100 yX1_lineUp, Cond.instanceMethod yX1_lineUp, Cond.selects RX1 yX1_lineUp yX1_lineUp, Cond.code yX1_lineUp cX1_lineUp 6 (some .int), Cond.methodLink RX1 111 yX1_isAfloat, Cond.instanceMethod yX1_isAfloat, Cond.selects RX1 yX1_isAfloat yX1_isAfloat]
def wsX3_minutesToNet_r4 : List Cond := [Cond.code yX1_isAfloat cX1_isAfloat 2 (some .boolean), Cond.methodLink RX1 104 yX1_drift, Cond.instanceMethod yX1_drift, Cond.selects RX1 yX1_drift yX1_drift, Cond.code yX1_drift cX1_drift 7 none, Cond.fieldLink RX1 114 "LanternWeirs$Bed" "currents" "LLanternWeirs$Row;", Cond.fieldLink RX1 129 "LanternWeirs$Bed" "sprays" "LLanternWeirs$Row;", Cond.methodLink RX1 119 yX1_catchesAhead, Cond.instanceMethod yX1_catchesAhead, Cond.selects RX1 yX1_catchesAhead yX1_catchesAhead, Cond.code yX1_catchesAhead cX1_catchesAhead 4 (some .boolean), Cond.methodLink RX1 122 yX1_moveTo, Cond.instanceMethod yX1_moveTo, Cond.selects RX1 yX1_moveTo yX1_moveTo, Cond.code yX1_moveTo cX1_moveTo 4 none, Cond.methodLink RX1 126 yX1_leave, Cond.instanceMethod yX1_leave, Cond.selects RX1 yX1_leave yX1_leave, Cond.code yX1_leave cX1_leave 3 none, Cond.methodLink RX1 132 yX1_meetWeir, Cond.instanceMethod yX1_meetWeir, Cond.selects RX1 yX1_meetWeir yX1_meetWeir, Cond.code yX1_meetWeir cX1_meetWeir 6 none, Cond.methodLink RX1 89 yX1_isSoaked]
def wsX3_minutesToNet_r5 : List Cond := [Cond.instanceMethod yX1_isSoaked, Cond.selects RX1 yX1_isSoaked yX1_isSoaked, Cond.code yX1_isSoaked cX1_isSoaked 2 (some .boolean), Cond.static yX3_sprayTakenBy, Cond.code yX3_sprayTakenBy cX3_sprayTakenBy 1 (some .int), Cond.methodLink RX1 135 yX0_hasNet, Cond.instanceMethod yX0_hasNet, Cond.selects RX0 yX0_hasNet yX0_hasNet, Cond.initialized RX0, Cond.code yX0_hasNet cX0_hasNet 3 (some .boolean), Cond.fieldLink RX0 23 "LanternWeirs$Bed" "nets" "LLanternWeirs$Row;", Cond.methodLink RX0 37 yX2_get, Cond.methodLink RX1 108 yX1_useWax, Cond.instanceMethod yX1_useWax, Cond.selects RX1 yX1_useWax yX1_useWax, Cond.code yX1_useWax cX1_useWax 3 none, Cond.methodLink RX1 86 yX1_isBurning, Cond.methodLink RX3 50 yX2_get]
def wsX3_minutesToNet : List Cond := .code yX3_minutesToNet cX3_minutesToNet 5 (some .int) :: ((wsX3_minutesToNet_r1 ++ (wsX3_minutesToNet_r2 ++ (wsX3_minutesToNet_r3 ++ (wsX3_minutesToNet_r4 ++ wsX3_minutesToNet_r5)))) ++ wsX30 ++ wsX10 ++ wsX20 ++ wsX00)
def wsX3_advise_r1 : List Cond := [Cond.classLink RX3 30 "java/lang/IndexOutOfBoundsException", Cond.initialized "java/lang/IndexOutOfBoundsException", Cond.methodLink RX3 103 yX3_isFrame, Cond.static yX3_isFrame, Cond.initialized RX3, Cond.code yX3_isFrame cX3_isFrame 1 (some .boolean), Cond.methodLink RX3 37 yX3_isWithin, Cond.static yX3_isWithin, Cond.code yX3_isWithin cX3_isWithin 3 (some .boolean), Cond.methodLink RX3 187 yX3_minutesToNet, Cond.instanceMethod yX3_minutesToNet, Cond.selects RX3 yX3_minutesToNet yX3_minutesToNet, Cond.code yX3_minutesToNet cX3_minutesToNet 5 (some .int), Cond.fieldLink RX3 23 "LanternWeirs" "dream" "LLanternWeirs$Fleet;", Cond.fieldLink RX3 19 "LanternWeirs" "fleet" "LLanternWeirs$Fleet;", Cond.fieldLink RX3 10 "LanternWeirs" "bed" "LLanternWeirs$Bed;", Cond.fieldLink RX3 203 "LanternWeirs$Fleet" "states" "LLanternWeirs$Row;", Cond.methodLink RX3 179 yX1_copy, Cond.instanceMethod yX1_copy, Cond.selects RX1 yX1_copy yX1_copy, Cond.initialized RX1, Cond.code yX1_copy cX1_copy 2 none, Cond.fieldLink RX1 16 "LanternWeirs$Fleet" "frames" "LLanternWeirs$Row;", Cond.fieldLink RX1 20 "LanternWeirs$Fleet" "wishes" "LLanternWeirs$Row;"]
def wsX3_advise_r2 : List Cond := [Cond.fieldLink RX1 23 "LanternWeirs$Fleet" "lanes" "LLanternWeirs$Row;", Cond.fieldLink RX1 26 "LanternWeirs$Fleet" "places" "LLanternWeirs$Row;", Cond.fieldLink RX1 29 "LanternWeirs$Fleet" "waxes" "LLanternWeirs$Row;", Cond.fieldLink RX1 32 "LanternWeirs$Fleet" "wets" "LLanternWeirs$Row;", Cond.fieldLink RX1 35 "LanternWeirs$Fleet" "burning" "LLanternWeirs$Row;", Cond.fieldLink RX1 38 "LanternWeirs$Fleet" "states" "LLanternWeirs$Row;", Cond.fieldLink RX1 41 "LanternWeirs$Fleet" "ends" "LLanternWeirs$Row;", Cond.fieldLink RX1 44 "LanternWeirs$Fleet" "crowd" "LLanternWeirs$Row;", Cond.fieldLink RX1 54 "LanternWeirs$Fleet" "size" "I", Cond.fieldLink RX1 58 "LanternWeirs$Fleet" "minute" "I", Cond.methodLink RX1 50 yX2_copy, Cond.instanceMethod yX2_copy, Cond.selects RX2 yX2_copy yX2_copy, Cond.initialized RX2, Cond.code yX2_copy cX2_copy 3 none, Cond.fieldLink RX2 7 "LanternWeirs$Row" "cells" "[I", Cond.methodLink RX2 13 yX2_get, Cond.instanceMethod yX2_get, Cond.selects RX2 yX2_get yX2_get, Cond.code yX2_get cX2_get 2 (some .int), Cond.methodLink RX3 115 yX1_add, Cond.instanceMethod yX1_add, Cond.selects RX1 yX1_add yX1_add, Cond.code yX1_add cX1_add 6 (some .int)]
def wsX3_advise_r3 : List Cond := [Cond.methodLink RX1 61 yX2_put, Cond.instanceMethod yX2_put, Cond.selects RX2 yX2_put yX2_put, Cond.code yX2_put cX2_put 3 none, Cond.static yX3_waxOf, Cond.code yX3_waxOf cX3_waxOf 1 (some .int), Cond.methodLink RX1 69 yX1_crowdBy, Cond.instanceMethod yX1_crowdBy, Cond.selects RX1 yX1_crowdBy yX1_crowdBy, Cond.code yX1_crowdBy cX1_crowdBy 4 none, Cond.methodLink RX1 80 yX2_get, Cond.methodLink RX1 92 yX1_cell, Cond.static yX1_cell, Cond.code yX1_cell cX1_cell 3 (some .int), Cond.methodLink RX3 152 yX1_isBurning, Cond.instanceMethod yX1_isBurning, Cond.selects RX1 yX1_isBurning yX1_isBurning, Cond.code yX1_isBurning cX1_isBurning 2 (some .boolean), Cond.methodLink RX1 76 yX1_has, Cond.instanceMethod yX1_has, Cond.selects RX1 yX1_has yX1_has, Cond.code yX1_has cX1_has 2 (some .boolean), Cond.methodLink RX3 175 yX1_passMinutes, Cond.instanceMethod yX1_passMinutes]
def wsX3_advise_r4 : List Cond := [Cond.selects RX1 yX1_passMinutes yX1_passMinutes, Cond.code yX1_passMinutes cX1_passMinutes 6 none, Cond.fieldLink RX1 47 "LanternWeirs$Fleet" "queue" "LLanternWeirs$Row;", Cond.methodLink RX1 100 yX1_lineUp, Cond.instanceMethod yX1_lineUp, Cond.selects RX1 yX1_lineUp yX1_lineUp, Cond.code yX1_lineUp cX1_lineUp 6 (some .int), Cond.methodLink RX1 111 yX1_isAfloat, Cond.instanceMethod yX1_isAfloat, Cond.selects RX1 yX1_isAfloat yX1_isAfloat, Cond.code yX1_isAfloat cX1_isAfloat 2 (some .boolean), Cond.methodLink RX1 104 yX1_drift, Cond.instanceMethod yX1_drift, Cond.selects RX1 yX1_drift yX1_drift, Cond.code yX1_drift cX1_drift 7 none, Cond.fieldLink RX1 114 "LanternWeirs$Bed" "currents" "LLanternWeirs$Row;", Cond.fieldLink RX1 129 "LanternWeirs$Bed" "sprays" "LLanternWeirs$Row;", Cond.methodLink RX1 119 yX1_catchesAhead, Cond.instanceMethod yX1_catchesAhead, Cond.selects RX1 yX1_catchesAhead yX1_catchesAhead, Cond.code yX1_catchesAhead cX1_catchesAhead 4 (some .boolean), Cond.methodLink RX1 122 yX1_moveTo, Cond.instanceMethod yX1_moveTo, Cond.selects RX1 yX1_moveTo yX1_moveTo]
def wsX3_advise_r5 : List Cond := [Cond.code yX1_moveTo cX1_moveTo 4 none, Cond.methodLink RX1 126 yX1_leave, Cond.instanceMethod yX1_leave, Cond.selects RX1 yX1_leave yX1_leave, Cond.code yX1_leave cX1_leave 3 none, Cond.methodLink RX1 132 yX1_meetWeir, Cond.instanceMethod yX1_meetWeir, Cond.selects RX1 yX1_meetWeir yX1_meetWeir, Cond.code yX1_meetWeir cX1_meetWeir 6 none, Cond.methodLink RX1 89 yX1_isSoaked, Cond.instanceMethod yX1_isSoaked, Cond.selects RX1 yX1_isSoaked yX1_isSoaked, Cond.code yX1_isSoaked cX1_isSoaked 2 (some .boolean), Cond.static yX3_sprayTakenBy, Cond.code yX3_sprayTakenBy cX3_sprayTakenBy 1 (some .int), Cond.methodLink RX1 135 yX0_hasNet, Cond.instanceMethod yX0_hasNet, Cond.selects RX0 yX0_hasNet yX0_hasNet, Cond.initialized RX0, Cond.code yX0_hasNet cX0_hasNet 3 (some .boolean), Cond.fieldLink RX0 23 "LanternWeirs$Bed" "nets" "LLanternWeirs$Row;", Cond.methodLink RX0 37 yX2_get, Cond.methodLink RX1 108 yX1_useWax, Cond.instanceMethod yX1_useWax]
def wsX3_advise_r6 : List Cond := [Cond.selects RX1 yX1_useWax yX1_useWax, Cond.code yX1_useWax cX1_useWax 3 none, Cond.methodLink RX1 86 yX1_isBurning, Cond.methodLink RX3 50 yX2_get]
def wsX3_advise : List Cond := .code yX3_advise cX3_advise 6 (some .int) :: ((wsX3_advise_r1 ++ (wsX3_advise_r2 ++ (wsX3_advise_r3 ++ (wsX3_advise_r4 ++ (wsX3_advise_r5 ++ wsX3_advise_r6))))) ++ wsX30 ++ wsX10 ++ wsX20 ++ wsX00 ++ (vx_atS RX3 34 "java/lang/IndexOutOfBoundsException" ["java/lang/RuntimeException", "java/lang/Exception"]).filter goodWord)
def wsX3_mean : List Cond := .code yX3_mean cX3_mean 4 (some .double) :: ([.fieldLink RX3 19 "LanternWeirs" "fleet" "LLanternWeirs$Fleet;", .fieldLink RX3 110 "LanternWeirs$Fleet" "size" "I", .fieldLink RX3 132 "LanternWeirs$Fleet" "places" "LLanternWeirs$Row;", .methodLink RX3 124 yX1_isAfloat, .instanceMethod yX1_isAfloat, .selects RX1 yX1_isAfloat yX1_isAfloat, .initialized RX1, .code yX1_isAfloat cX1_isAfloat 2 (some .boolean), .fieldLink RX1 38 "LanternWeirs$Fleet" "states" "LLanternWeirs$Row;", .methodLink RX1 76 yX1_has, .instanceMethod yX1_has, .selects RX1 yX1_has yX1_has, .code yX1_has cX1_has 2 (some .boolean), .fieldLink RX1 54 "LanternWeirs$Fleet" "size" "I", .static yX3_isWithin, .initialized RX3, .code yX3_isWithin cX3_isWithin 3 (some .boolean), .methodLink RX1 80 yX2_get, .instanceMethod yX2_get, .selects RX2 yX2_get yX2_get, .initialized RX2, .code yX2_get cX2_get 2 (some .int), .fieldLink RX2 7 "LanternWeirs$Row" "cells" "[I", .methodLink RX3 50 yX2_get] ++ wsX30 ++ wsX10 ++ wsX20)
def wsX3_digest_r1 : List Cond := [Cond.constantLong RX3 190 (1297), Cond.constantLong RX3 192 (31), Cond.fieldLink RX3 10 "LanternWeirs" "bed" "LLanternWeirs$Bed;", Cond.fieldLink RX3 46 "LanternWeirs$Bed" "currents" "LLanternWeirs$Row;", Cond.fieldLink RX3 19 "LanternWeirs" "fleet" "LLanternWeirs$Fleet;", Cond.fieldLink RX3 110 "LanternWeirs$Fleet" "size" "I", Cond.methodLink RX3 167 yX3_counted, Cond.instanceMethod yX3_counted, Cond.selects RX3 yX3_counted yX3_counted, Cond.initialized RX3, Cond.code yX3_counted cX3_counted 2 (some .int), Cond.fieldLink RX3 200 "LanternWeirs$Fleet" "minute" "I", Cond.fieldLink RX3 64 "LanternWeirs$Bed" "weirs" "I", Cond.fieldLink RX3 82 "LanternWeirs$Bed" "netCount" "I", Cond.methodLink RX3 172 yX1_tally, Cond.instanceMethod yX1_tally, Cond.selects RX1 yX1_tally yX1_tally, Cond.initialized RX1, Cond.code yX1_tally cX1_tally 4 (some .int), Cond.fieldLink RX1 54 "LanternWeirs$Fleet" "size" "I", Cond.methodLink RX1 96 yX1_share, Cond.instanceMethod yX1_share, Cond.selects RX1 yX1_share yX1_share, Cond.code yX1_share cX1_share 5 (some .int)]
def wsX3_digest_r2 : List Cond := [Cond.fieldLink RX1 38 "LanternWeirs$Fleet" "states" "LLanternWeirs$Row;", Cond.fieldLink RX1 35 "LanternWeirs$Fleet" "burning" "LLanternWeirs$Row;", Cond.fieldLink RX1 20 "LanternWeirs$Fleet" "wishes" "LLanternWeirs$Row;", Cond.methodLink RX1 80 yX2_get, Cond.instanceMethod yX2_get, Cond.selects RX2 yX2_get yX2_get, Cond.initialized RX2, Cond.code yX2_get cX2_get 2 (some .int), Cond.fieldLink RX2 7 "LanternWeirs$Row" "cells" "[I", Cond.methodLink RX3 50 yX2_get, Cond.methodLink RX3 99 yX3_riverFact, Cond.instanceMethod yX3_riverFact, Cond.selects RX3 yX3_riverFact yX3_riverFact, Cond.code yX3_riverFact cX3_riverFact 4 (some .int), Cond.fieldLink RX3 68 "LanternWeirs$Bed" "sprays" "LLanternWeirs$Row;", Cond.methodLink RX3 194 yX1_floatingAt, Cond.instanceMethod yX1_floatingAt, Cond.selects RX1 yX1_floatingAt yX1_floatingAt, Cond.code yX1_floatingAt cX1_floatingAt 5 (some .int), Cond.fieldLink RX1 44 "LanternWeirs$Fleet" "crowd" "LLanternWeirs$Row;", Cond.methodLink RX1 92 yX1_cell, Cond.static yX1_cell, Cond.code yX1_cell cX1_cell 3 (some .int), Cond.methodLink RX3 85 yX0_hasNet]
def wsX3_digest_r3 : List Cond := [Cond.instanceMethod yX0_hasNet, Cond.selects RX0 yX0_hasNet yX0_hasNet, Cond.initialized RX0, Cond.code yX0_hasNet cX0_hasNet 3 (some .boolean), Cond.fieldLink RX0 23 "LanternWeirs$Bed" "nets" "LLanternWeirs$Row;", Cond.methodLink RX0 37 yX2_get, Cond.methodLink RX3 197 yX1_caughtAt, Cond.instanceMethod yX1_caughtAt, Cond.selects RX1 yX1_caughtAt yX1_caughtAt, Cond.code yX1_caughtAt cX1_caughtAt 5 (some .int), Cond.fieldLink RX1 23 "LanternWeirs$Fleet" "lanes" "LLanternWeirs$Row;", Cond.fieldLink RX1 26 "LanternWeirs$Fleet" "places" "LLanternWeirs$Row;", Cond.methodLink RX3 159 yX1_fact, Cond.instanceMethod yX1_fact, Cond.selects RX1 yX1_fact yX1_fact, Cond.code yX1_fact cX1_fact 3 (some .int), Cond.fieldLink RX1 16 "LanternWeirs$Fleet" "frames" "LLanternWeirs$Row;", Cond.fieldLink RX1 29 "LanternWeirs$Fleet" "waxes" "LLanternWeirs$Row;", Cond.fieldLink RX1 32 "LanternWeirs$Fleet" "wets" "LLanternWeirs$Row;", Cond.fieldLink RX1 41 "LanternWeirs$Fleet" "ends" "LLanternWeirs$Row;", Cond.methodLink RX3 162 yX3_nextWeir, Cond.instanceMethod yX3_nextWeir, Cond.selects RX3 yX3_nextWeir yX3_nextWeir, Cond.code yX3_nextWeir cX3_nextWeir 3 (some .int)]
def wsX3_digest_r4 : List Cond := [Cond.fieldLink RX3 132 "LanternWeirs$Fleet" "places" "LLanternWeirs$Row;", Cond.methodLink RX3 124 yX1_isAfloat, Cond.instanceMethod yX1_isAfloat, Cond.selects RX1 yX1_isAfloat yX1_isAfloat, Cond.code yX1_isAfloat cX1_isAfloat 2 (some .boolean), Cond.methodLink RX1 76 yX1_has, Cond.instanceMethod yX1_has, Cond.selects RX1 yX1_has yX1_has, Cond.code yX1_has cX1_has 2 (some .boolean), Cond.static yX3_isWithin, Cond.code yX3_isWithin cX3_isWithin 3 (some .boolean)]
def wsX3_digest : List Cond := .code yX3_digest cX3_digest 6 (some .long) :: ((wsX3_digest_r1 ++ (wsX3_digest_r2 ++ (wsX3_digest_r3 ++ wsX3_digest_r4))) ++ wsX30 ++ wsX00 ++ wsX10 ++ wsX20)
def wsX4_init : List Cond := .code yX4_init cX4_init 2 none :: ([.fieldLink RX4 3 "LanternWeirsModel$State" "this$0" "LLanternWeirsModel;", .methodLink RX4 9 objectInit, .instanceMethod objectInit, .code objectInit ⟨#[0xb1]⟩ 1 none, .arrayClass .int, .fieldLink RX4 15 "LanternWeirsModel$State" "frame" "[I", .fieldLink RX4 19 "LanternWeirsModel$State" "wish" "[I", .fieldLink RX4 22 "LanternWeirsModel$State" "lane" "[I", .fieldLink RX4 25 "LanternWeirsModel$State" "place" "[I", .fieldLink RX4 28 "LanternWeirsModel$State" "wax" "[I", .fieldLink RX4 31 "LanternWeirsModel$State" "wet" "[I", .fieldLink RX4 34 "LanternWeirsModel$State" "burns" "[I", .fieldLink RX4 37 "LanternWeirsModel$State" "state" "[I", .fieldLink RX4 40 "LanternWeirsModel$State" "ended" "[I", .fieldLink RX4 43 "LanternWeirsModel$State" "order" "[I"] ++ wsX40)
def wsX4_copy : List Cond := .code yX4_copy cX4_copy 3 none :: ([.methodLink RX4 46 arraycopyName, .native arraycopyName, .static arraycopyName, .initialized "java/lang/System"])
def wsX4_become : List Cond := .code yX4_become cX4_become 2 none :: ([.fieldLink RX4 52 "LanternWeirsModel$State" "minute" "I", .fieldLink RX4 56 "LanternWeirsModel$State" "lanterns" "I", .fieldLink RX4 15 "LanternWeirsModel$State" "frame" "[I", .fieldLink RX4 19 "LanternWeirsModel$State" "wish" "[I", .fieldLink RX4 22 "LanternWeirsModel$State" "lane" "[I", .fieldLink RX4 25 "LanternWeirsModel$State" "place" "[I", .fieldLink RX4 28 "LanternWeirsModel$State" "wax" "[I", .fieldLink RX4 31 "LanternWeirsModel$State" "wet" "[I", .fieldLink RX4 34 "LanternWeirsModel$State" "burns" "[I", .fieldLink RX4 37 "LanternWeirsModel$State" "state" "[I", .fieldLink RX4 40 "LanternWeirsModel$State" "ended" "[I", .methodLink RX4 59 yX4_copy, .instanceMethod yX4_copy, .selects RX4 yX4_copy yX4_copy, .initialized RX4, .code yX4_copy cX4_copy 3 none, .methodLink RX4 46 arraycopyName, .native arraycopyName, .static arraycopyName, .initialized "java/lang/System"] ++ wsX40)
def wsX4_launch : List Cond := .code yX4_launch cX4_launch 5 (some .int) :: ([.fieldLink RX4 15 "LanternWeirsModel$State" "frame" "[I", .fieldLink RX4 56 "LanternWeirsModel$State" "lanterns" "I", .fieldLink RX4 19 "LanternWeirsModel$State" "wish" "[I", .fieldLink RX4 22 "LanternWeirsModel$State" "lane" "[I", .fieldLink RX4 25 "LanternWeirsModel$State" "place" "[I", .fieldLink RX4 28 "LanternWeirsModel$State" "wax" "[I", .fieldLink RX4 31 "LanternWeirsModel$State" "wet" "[I", .fieldLink RX4 34 "LanternWeirsModel$State" "burns" "[I", .fieldLink RX4 37 "LanternWeirsModel$State" "state" "[I", .fieldLink RX4 40 "LanternWeirsModel$State" "ended" "[I"] ++ wsX40)
def wsX4_isSoaked : List Cond := .code yX4_isSoaked cX4_isSoaked 2 (some .boolean) :: ([.fieldLink RX4 31 "LanternWeirsModel$State" "wet" "[I", .fieldLink RX4 15 "LanternWeirsModel$State" "frame" "[I"] ++ wsX40)
def wsX4_at : List Cond := .code yX4_at cX4_at 6 (some .int) :: ([.fieldLink RX4 56 "LanternWeirsModel$State" "lanterns" "I", .fieldLink RX4 37 "LanternWeirsModel$State" "state" "[I", .fieldLink RX4 22 "LanternWeirsModel$State" "lane" "[I", .fieldLink RX4 25 "LanternWeirsModel$State" "place" "[I"] ++ wsX40)
def wsX4_isAhead : List Cond := .code yX4_isAhead cX4_isAhead 3 (some .boolean) :: ([.fieldLink RX4 25 "LanternWeirsModel$State" "place" "[I", .fieldLink RX4 22 "LanternWeirsModel$State" "lane" "[I"] ++ wsX40)
def wsX4_sort : List Cond := .code yX4_sort cX4_sort 4 (some .int) :: ([.fieldLink RX4 56 "LanternWeirsModel$State" "lanterns" "I", .fieldLink RX4 37 "LanternWeirsModel$State" "state" "[I", .fieldLink RX4 43 "LanternWeirsModel$State" "order" "[I", .methodLink RX4 69 yX4_isAhead, .instanceMethod yX4_isAhead, .selects RX4 yX4_isAhead yX4_isAhead, .initialized RX4, .code yX4_isAhead cX4_isAhead 3 (some .boolean), .fieldLink RX4 25 "LanternWeirsModel$State" "place" "[I", .fieldLink RX4 22 "LanternWeirsModel$State" "lane" "[I"] ++ wsX40)
def wsX4_isCaught : List Cond := .code yX4_isCaught cX4_isCaught 3 (some .boolean) :: ([.fieldLink RX4 56 "LanternWeirsModel$State" "lanterns" "I", .fieldLink RX4 37 "LanternWeirsModel$State" "state" "[I", .fieldLink RX4 22 "LanternWeirsModel$State" "lane" "[I", .fieldLink RX4 25 "LanternWeirsModel$State" "place" "[I", .fieldLink RX4 15 "LanternWeirsModel$State" "frame" "[I"] ++ wsX40)
def wsX4_end : List Cond := .code yX4_end cX4_end 3 none :: ([.fieldLink RX4 37 "LanternWeirsModel$State" "state" "[I", .fieldLink RX4 40 "LanternWeirsModel$State" "ended" "[I", .fieldLink RX4 52 "LanternWeirsModel$State" "minute" "I"] ++ wsX40)
def wsX4_pass_r1 : List Cond := [Cond.fieldLink RX4 3 "LanternWeirsModel$State" "this$0" "LLanternWeirsModel;", Cond.fieldLink RX4 25 "LanternWeirsModel$State" "place" "[I", Cond.fieldLink RX4 22 "LanternWeirsModel$State" "lane" "[I", Cond.fieldLink RX4 31 "LanternWeirsModel$State" "wet" "[I", Cond.methodLink RX4 95 Lib.Math.max.name, Cond.static Lib.Math.max.name, Cond.initialized "java/lang/Math", Cond.code Lib.Math.max.name Lib.Math.max.code 2 (some .int), Cond.fieldLink RX4 34 "LanternWeirsModel$State" "burns" "[I", Cond.methodLink RX4 91 yX4_at, Cond.instanceMethod yX4_at, Cond.selects RX4 yX4_at yX4_at, Cond.initialized RX4, Cond.code yX4_at cX4_at 6 (some .int), Cond.fieldLink RX4 56 "LanternWeirsModel$State" "lanterns" "I", Cond.fieldLink RX4 37 "LanternWeirsModel$State" "state" "[I", Cond.methodLink RX4 101 yX4_isSoaked, Cond.instanceMethod yX4_isSoaked, Cond.selects RX4 yX4_isSoaked yX4_isSoaked, Cond.code yX4_isSoaked cX4_isSoaked 2 (some .boolean), Cond.fieldLink RX4 15 "LanternWeirsModel$State" "frame" "[I", Cond.methodLink RX4 80 yX4_end, Cond.instanceMethod yX4_end, Cond.selects RX4 yX4_end yX4_end]
def wsX4_pass_r2 : List Cond := [Cond.code yX4_end cX4_end 3 none, Cond.fieldLink RX4 40 "LanternWeirsModel$State" "ended" "[I", Cond.fieldLink RX4 52 "LanternWeirsModel$State" "minute" "I"]
def wsX4_pass : List Cond := .code yX4_pass cX4_pass 4 none :: ((wsX4_pass_r1 ++ wsX4_pass_r2) ++ wsX40 ++ wsX50)
def wsX4_drift_r1 : List Cond := [Cond.fieldLink RX4 3 "LanternWeirsModel$State" "this$0" "LLanternWeirsModel;", Cond.fieldLink RX4 22 "LanternWeirsModel$State" "lane" "[I", Cond.fieldLink RX4 37 "LanternWeirsModel$State" "state" "[I", Cond.fieldLink RX4 25 "LanternWeirsModel$State" "place" "[I", Cond.fieldLink RX4 34 "LanternWeirsModel$State" "burns" "[I", Cond.methodLink RX4 76 yX4_isCaught, Cond.instanceMethod yX4_isCaught, Cond.selects RX4 yX4_isCaught yX4_isCaught, Cond.initialized RX4, Cond.code yX4_isCaught cX4_isCaught 3 (some .boolean), Cond.fieldLink RX4 56 "LanternWeirsModel$State" "lanterns" "I", Cond.fieldLink RX4 15 "LanternWeirsModel$State" "frame" "[I", Cond.methodLink RX4 80 yX4_end, Cond.instanceMethod yX4_end, Cond.selects RX4 yX4_end yX4_end, Cond.code yX4_end cX4_end 3 none, Cond.fieldLink RX4 40 "LanternWeirsModel$State" "ended" "[I", Cond.fieldLink RX4 52 "LanternWeirsModel$State" "minute" "I", Cond.methodLink RX4 84 yX4_pass, Cond.instanceMethod yX4_pass, Cond.selects RX4 yX4_pass yX4_pass, Cond.code yX4_pass cX4_pass 4 none, Cond.fieldLink RX4 31 "LanternWeirsModel$State" "wet" "[I", Cond.methodLink RX4 95 Lib.Math.max.name]
def wsX4_drift_r2 : List Cond := [Cond.static Lib.Math.max.name, Cond.initialized "java/lang/Math", Cond.code Lib.Math.max.name Lib.Math.max.code 2 (some .int), Cond.methodLink RX4 91 yX4_at, Cond.instanceMethod yX4_at, Cond.selects RX4 yX4_at yX4_at, Cond.code yX4_at cX4_at 6 (some .int), Cond.methodLink RX4 101 yX4_isSoaked, Cond.instanceMethod yX4_isSoaked, Cond.selects RX4 yX4_isSoaked yX4_isSoaked, Cond.code yX4_isSoaked cX4_isSoaked 2 (some .boolean)]
def wsX4_drift : List Cond := .code yX4_drift cX4_drift 3 none :: ((wsX4_drift_r1 ++ wsX4_drift_r2) ++ wsX40 ++ wsX50)
def wsX4_pass__r1 : List Cond := [Cond.fieldLink RX4 43 "LanternWeirsModel$State" "order" "[I", Cond.fieldLink RX4 56 "LanternWeirsModel$State" "lanterns" "I", Cond.fieldLink RX4 37 "LanternWeirsModel$State" "state" "[I", Cond.fieldLink RX4 34 "LanternWeirsModel$State" "burns" "[I", Cond.fieldLink RX4 28 "LanternWeirsModel$State" "wax" "[I", Cond.fieldLink RX4 52 "LanternWeirsModel$State" "minute" "I", Cond.methodLink RX4 107 yX4_sort, Cond.instanceMethod yX4_sort, Cond.selects RX4 yX4_sort yX4_sort, Cond.initialized RX4, Cond.code yX4_sort cX4_sort 4 (some .int), Cond.methodLink RX4 69 yX4_isAhead, Cond.instanceMethod yX4_isAhead, Cond.selects RX4 yX4_isAhead yX4_isAhead, Cond.code yX4_isAhead cX4_isAhead 3 (some .boolean), Cond.fieldLink RX4 25 "LanternWeirsModel$State" "place" "[I", Cond.fieldLink RX4 22 "LanternWeirsModel$State" "lane" "[I", Cond.methodLink RX4 111 yX4_drift, Cond.instanceMethod yX4_drift, Cond.selects RX4 yX4_drift yX4_drift, Cond.code yX4_drift cX4_drift 3 none, Cond.fieldLink RX4 3 "LanternWeirsModel$State" "this$0" "LLanternWeirsModel;", Cond.methodLink RX4 76 yX4_isCaught, Cond.instanceMethod yX4_isCaught]
def wsX4_pass__r2 : List Cond := [Cond.selects RX4 yX4_isCaught yX4_isCaught, Cond.code yX4_isCaught cX4_isCaught 3 (some .boolean), Cond.fieldLink RX4 15 "LanternWeirsModel$State" "frame" "[I", Cond.methodLink RX4 80 yX4_end, Cond.instanceMethod yX4_end, Cond.selects RX4 yX4_end yX4_end, Cond.code yX4_end cX4_end 3 none, Cond.fieldLink RX4 40 "LanternWeirsModel$State" "ended" "[I", Cond.methodLink RX4 84 yX4_pass, Cond.instanceMethod yX4_pass, Cond.selects RX4 yX4_pass yX4_pass, Cond.code yX4_pass cX4_pass 4 none, Cond.fieldLink RX4 31 "LanternWeirsModel$State" "wet" "[I", Cond.methodLink RX4 95 Lib.Math.max.name, Cond.static Lib.Math.max.name, Cond.initialized "java/lang/Math", Cond.code Lib.Math.max.name Lib.Math.max.code 2 (some .int), Cond.methodLink RX4 91 yX4_at, Cond.instanceMethod yX4_at, Cond.selects RX4 yX4_at yX4_at, Cond.code yX4_at cX4_at 6 (some .int), Cond.methodLink RX4 101 yX4_isSoaked, Cond.instanceMethod yX4_isSoaked, Cond.selects RX4 yX4_isSoaked yX4_isSoaked]
def wsX4_pass__r3 : List Cond := [Cond.code yX4_isSoaked cX4_isSoaked 2 (some .boolean)]
def wsX4_pass_ : List Cond := .code yX4_pass_ cX4_pass_ 3 none :: ((wsX4_pass__r1 ++ (wsX4_pass__r2 ++ wsX4_pass__r3)) ++ wsX40 ++ wsX50)
def wsX4_counted : List Cond := .code yX4_counted cX4_counted 4 (some .int) :: ([.arrayClass .int, .fieldLink RX4 52 "LanternWeirsModel$State" "minute" "I", .fieldLink RX4 56 "LanternWeirsModel$State" "lanterns" "I", .fieldLink RX4 3 "LanternWeirsModel$State" "this$0" "LLanternWeirsModel;", .fieldLink RX4 37 "LanternWeirsModel$State" "state" "[I", .fieldLink RX4 34 "LanternWeirsModel$State" "burns" "[I", .fieldLink RX4 19 "LanternWeirsModel$State" "wish" "[I"] ++ wsX40 ++ wsX50)
def wsX5_init_r1 : List Cond := [Cond.methodLink RX5 1 objectInit, Cond.instanceMethod objectInit, Cond.code objectInit ⟨#[0xb1]⟩ 1 none, Cond.arrayClass .int, Cond.fieldLink RX5 7 "LanternWeirsModel" "current" "[I", Cond.fieldLink RX5 13 "LanternWeirsModel" "spray" "[I", Cond.fieldLink RX5 16 "LanternWeirsModel" "net" "[I", Cond.classLink RX5 19 RX4, Cond.instantiable RX4 13, Cond.initialized RX4, Cond.fieldLink RX5 24 "LanternWeirsModel" "s" "LLanternWeirsModel$State;", Cond.fieldLink RX5 28 "LanternWeirsModel" "ahead" "LLanternWeirsModel$State;", Cond.instanceMethod yX4_init, Cond.code yX4_init cX4_init 2 none, Cond.fieldLink RX4 3 "LanternWeirsModel$State" "this$0" "LLanternWeirsModel;", Cond.methodLink RX4 9 objectInit, Cond.fieldLink RX4 15 "LanternWeirsModel$State" "frame" "[I", Cond.fieldLink RX4 19 "LanternWeirsModel$State" "wish" "[I", Cond.fieldLink RX4 22 "LanternWeirsModel$State" "lane" "[I", Cond.fieldLink RX4 25 "LanternWeirsModel$State" "place" "[I", Cond.fieldLink RX4 28 "LanternWeirsModel$State" "wax" "[I", Cond.fieldLink RX4 31 "LanternWeirsModel$State" "wet" "[I", Cond.fieldLink RX4 34 "LanternWeirsModel$State" "burns" "[I", Cond.fieldLink RX4 37 "LanternWeirsModel$State" "state" "[I"]
def wsX5_init_r2 : List Cond := [Cond.fieldLink RX4 40 "LanternWeirsModel$State" "ended" "[I", Cond.fieldLink RX4 43 "LanternWeirsModel$State" "order" "[I"]
def wsX5_init : List Cond := .code yX5_init cX5_init 1 none :: ((wsX5_init_r1 ++ wsX5_init_r2) ++ wsX50 ++ wsX40)
def wsX5_thrown : List Cond := .code yX5_thrown cX5_thrown 1 (some .int) :: ([.fieldLink RX5 31 "LanternWeirsModel" "thrown" "I"] ++ wsX50)
def wsX5_no : List Cond := .code yX5_no cX5_no 2 (some .int) :: ([.fieldLink RX5 31 "LanternWeirsModel" "thrown" "I"] ++ wsX50)
def wsX5_isIn : List Cond := .code yX5_isIn cX5_isIn 3 (some .boolean) :: ([])
def wsX5_isLane : List Cond := .code yX5_isLane cX5_isLane 1 (some .boolean) :: ([.methodLink RX5 35 yX5_isIn, .static yX5_isIn, .initialized RX5, .code yX5_isIn cX5_isIn 3 (some .boolean)])
def wsX5_isPlace : List Cond := .code yX5_isPlace cX5_isPlace 1 (some .boolean) :: ([.methodLink RX5 35 yX5_isIn, .static yX5_isIn, .initialized RX5, .code yX5_isIn cX5_isIn 3 (some .boolean)])
def wsX5_isLantern : List Cond := .code yX5_isLantern cX5_isLantern 2 (some .boolean) :: ([.fieldLink RX5 24 "LanternWeirsModel" "s" "LLanternWeirsModel$State;", .methodLink RX5 35 yX5_isIn, .static yX5_isIn, .initialized RX5, .code yX5_isIn cX5_isIn 3 (some .boolean)] ++ wsX50 ++ wsX40)
def wsX5_setCurrent : List Cond := .code yX5_setCurrent cX5_setCurrent 4 (some .int) :: ([.fieldLink RX5 31 "LanternWeirsModel" "thrown" "I", .fieldLink RX5 7 "LanternWeirsModel" "current" "[I", .methodLink RX5 42 yX5_isLane, .static yX5_isLane, .initialized RX5, .code yX5_isLane cX5_isLane 1 (some .boolean), .methodLink RX5 35 yX5_isIn, .static yX5_isIn, .code yX5_isIn cX5_isIn 3 (some .boolean), .methodLink RX5 46 yX5_no, .instanceMethod yX5_no, .selects RX5 yX5_no yX5_no, .code yX5_no cX5_no 2 (some .int)] ++ wsX50)
def wsX5_weir : List Cond := .code yX5_weir cX5_weir 3 (some .int) :: ([.fieldLink RX5 31 "LanternWeirsModel" "thrown" "I", .fieldLink RX5 53 "LanternWeirsModel" "weirs" "I", .fieldLink RX5 13 "LanternWeirsModel" "spray" "[I", .methodLink RX5 50 yX5_isPlace, .static yX5_isPlace, .initialized RX5, .code yX5_isPlace cX5_isPlace 1 (some .boolean), .methodLink RX5 35 yX5_isIn, .static yX5_isIn, .code yX5_isIn cX5_isIn 3 (some .boolean), .methodLink RX5 46 yX5_no, .instanceMethod yX5_no, .selects RX5 yX5_no yX5_no, .code yX5_no cX5_no 2 (some .int)] ++ wsX50)
def wsX5_net : List Cond := .code yX5_net cX5_net 3 (some .int) :: ([.fieldLink RX5 31 "LanternWeirsModel" "thrown" "I", .fieldLink RX5 56 "LanternWeirsModel" "nets" "I", .fieldLink RX5 16 "LanternWeirsModel" "net" "[I", .methodLink RX5 42 yX5_isLane, .static yX5_isLane, .initialized RX5, .code yX5_isLane cX5_isLane 1 (some .boolean), .methodLink RX5 35 yX5_isIn, .static yX5_isIn, .code yX5_isIn cX5_isIn 3 (some .boolean), .methodLink RX5 50 yX5_isPlace, .static yX5_isPlace, .code yX5_isPlace cX5_isPlace 1 (some .boolean), .methodLink RX5 46 yX5_no, .instanceMethod yX5_no, .selects RX5 yX5_no yX5_no, .code yX5_no cX5_no 2 (some .int)] ++ wsX50)
def wsX5_riverTold : List Cond := .code yX5_riverTold cX5_riverTold 4 (some .int) :: ([.fieldLink RX5 24 "LanternWeirsModel" "s" "LLanternWeirsModel$State;", .fieldLink RX5 13 "LanternWeirsModel" "spray" "[I", .fieldLink RX5 16 "LanternWeirsModel" "net" "[I", .methodLink RX5 59 yX4_at, .instanceMethod yX4_at, .selects RX4 yX4_at yX4_at, .initialized RX4, .code yX4_at cX4_at 6 (some .int), .fieldLink RX4 56 "LanternWeirsModel$State" "lanterns" "I", .fieldLink RX4 37 "LanternWeirsModel$State" "state" "[I", .fieldLink RX4 22 "LanternWeirsModel$State" "lane" "[I", .fieldLink RX4 25 "LanternWeirsModel$State" "place" "[I"] ++ wsX50 ++ wsX40)
def wsX5_river_r1 : List Cond := [Cond.fieldLink RX5 31 "LanternWeirsModel" "thrown" "I", Cond.methodLink RX5 42 yX5_isLane, Cond.static yX5_isLane, Cond.initialized RX5, Cond.code yX5_isLane cX5_isLane 1 (some .boolean), Cond.methodLink RX5 35 yX5_isIn, Cond.static yX5_isIn, Cond.code yX5_isIn cX5_isIn 3 (some .boolean), Cond.methodLink RX5 50 yX5_isPlace, Cond.static yX5_isPlace, Cond.code yX5_isPlace cX5_isPlace 1 (some .boolean), Cond.methodLink RX5 63 yX5_riverTold, Cond.instanceMethod yX5_riverTold, Cond.selects RX5 yX5_riverTold yX5_riverTold, Cond.code yX5_riverTold cX5_riverTold 4 (some .int), Cond.fieldLink RX5 24 "LanternWeirsModel" "s" "LLanternWeirsModel$State;", Cond.fieldLink RX5 13 "LanternWeirsModel" "spray" "[I", Cond.fieldLink RX5 16 "LanternWeirsModel" "net" "[I", Cond.methodLink RX5 59 yX4_at, Cond.instanceMethod yX4_at, Cond.selects RX4 yX4_at yX4_at, Cond.initialized RX4, Cond.code yX4_at cX4_at 6 (some .int), Cond.fieldLink RX4 56 "LanternWeirsModel$State" "lanterns" "I"]
def wsX5_river_r2 : List Cond := [Cond.fieldLink RX4 37 "LanternWeirsModel$State" "state" "[I", Cond.fieldLink RX4 22 "LanternWeirsModel$State" "lane" "[I", Cond.fieldLink RX4 25 "LanternWeirsModel$State" "place" "[I", Cond.methodLink RX5 46 yX5_no, Cond.instanceMethod yX5_no, Cond.selects RX5 yX5_no yX5_no, Cond.code yX5_no cX5_no 2 (some .int)]
def wsX5_river : List Cond := .code yX5_river cX5_river 4 (some .int) :: ((wsX5_river_r1 ++ wsX5_river_r2) ++ wsX50 ++ wsX40)
def wsX5_launch_r1 : List Cond := [Cond.fieldLink RX5 31 "LanternWeirsModel" "thrown" "I", Cond.fieldLink RX5 24 "LanternWeirsModel" "s" "LLanternWeirsModel$State;", Cond.methodLink RX5 35 yX5_isIn, Cond.static yX5_isIn, Cond.initialized RX5, Cond.code yX5_isIn cX5_isIn 3 (some .boolean), Cond.methodLink RX5 42 yX5_isLane, Cond.static yX5_isLane, Cond.code yX5_isLane cX5_isLane 1 (some .boolean), Cond.methodLink RX5 50 yX5_isPlace, Cond.static yX5_isPlace, Cond.code yX5_isPlace cX5_isPlace 1 (some .boolean), Cond.methodLink RX5 46 yX5_no, Cond.instanceMethod yX5_no, Cond.selects RX5 yX5_no yX5_no, Cond.code yX5_no cX5_no 2 (some .int), Cond.methodLink RX5 66 yX4_launch, Cond.instanceMethod yX4_launch, Cond.selects RX4 yX4_launch yX4_launch, Cond.initialized RX4, Cond.code yX4_launch cX4_launch 5 (some .int), Cond.fieldLink RX4 15 "LanternWeirsModel$State" "frame" "[I", Cond.fieldLink RX4 56 "LanternWeirsModel$State" "lanterns" "I", Cond.fieldLink RX4 19 "LanternWeirsModel$State" "wish" "[I"]
def wsX5_launch_r2 : List Cond := [Cond.fieldLink RX4 22 "LanternWeirsModel$State" "lane" "[I", Cond.fieldLink RX4 25 "LanternWeirsModel$State" "place" "[I", Cond.fieldLink RX4 28 "LanternWeirsModel$State" "wax" "[I", Cond.fieldLink RX4 31 "LanternWeirsModel$State" "wet" "[I", Cond.fieldLink RX4 34 "LanternWeirsModel$State" "burns" "[I", Cond.fieldLink RX4 37 "LanternWeirsModel$State" "state" "[I", Cond.fieldLink RX4 40 "LanternWeirsModel$State" "ended" "[I"]
def wsX5_launch : List Cond := .code yX5_launch cX5_launch 5 (some .int) :: ((wsX5_launch_r1 ++ wsX5_launch_r2) ++ wsX50 ++ wsX40)
def wsX5_push : List Cond := .code yX5_push cX5_push 4 (some .int) :: ([.fieldLink RX5 31 "LanternWeirsModel" "thrown" "I", .fieldLink RX5 24 "LanternWeirsModel" "s" "LLanternWeirsModel$State;", .methodLink RX5 70 yX5_isLantern, .instanceMethod yX5_isLantern, .selects RX5 yX5_isLantern yX5_isLantern, .initialized RX5, .code yX5_isLantern cX5_isLantern 2 (some .boolean), .methodLink RX5 35 yX5_isIn, .static yX5_isIn, .code yX5_isIn cX5_isIn 3 (some .boolean), .methodLink RX5 42 yX5_isLane, .static yX5_isLane, .code yX5_isLane cX5_isLane 1 (some .boolean), .methodLink RX5 46 yX5_no, .instanceMethod yX5_no, .selects RX5 yX5_no yX5_no, .code yX5_no cX5_no 2 (some .int)] ++ wsX50 ++ wsX40)
def wsX5_light : List Cond := .code yX5_light cX5_light 2 (some .int) :: ([.fieldLink RX5 31 "LanternWeirsModel" "thrown" "I", .fieldLink RX5 24 "LanternWeirsModel" "s" "LLanternWeirsModel$State;", .methodLink RX5 70 yX5_isLantern, .instanceMethod yX5_isLantern, .selects RX5 yX5_isLantern yX5_isLantern, .initialized RX5, .code yX5_isLantern cX5_isLantern 2 (some .boolean), .methodLink RX5 35 yX5_isIn, .static yX5_isIn, .code yX5_isIn cX5_isIn 3 (some .boolean), .methodLink RX5 46 yX5_no, .instanceMethod yX5_no, .selects RX5 yX5_no yX5_no, .code yX5_no cX5_no 2 (some .int), .methodLink RX5 82 yX4_isSoaked, .instanceMethod yX4_isSoaked, .selects RX4 yX4_isSoaked yX4_isSoaked, .initialized RX4, .code yX4_isSoaked cX4_isSoaked 2 (some .boolean), .fieldLink RX4 31 "LanternWeirsModel$State" "wet" "[I", .fieldLink RX4 15 "LanternWeirsModel$State" "frame" "[I"] ++ wsX50 ++ wsX40)
def wsX5_blow : List Cond := .code yX5_blow cX5_blow 2 (some .int) :: ([.fieldLink RX5 31 "LanternWeirsModel" "thrown" "I", .fieldLink RX5 24 "LanternWeirsModel" "s" "LLanternWeirsModel$State;", .methodLink RX5 70 yX5_isLantern, .instanceMethod yX5_isLantern, .selects RX5 yX5_isLantern yX5_isLantern, .initialized RX5, .code yX5_isLantern cX5_isLantern 2 (some .boolean), .methodLink RX5 35 yX5_isIn, .static yX5_isIn, .code yX5_isIn cX5_isIn 3 (some .boolean), .methodLink RX5 46 yX5_no, .instanceMethod yX5_no, .selects RX5 yX5_no yX5_no, .code yX5_no cX5_no 2 (some .int)] ++ wsX50 ++ wsX40)
def wsX5_lanternTold : List Cond := .code yX5_lanternTold cX5_lanternTold 4 (some .int) :: ([.arrayClass .int, .fieldLink RX5 24 "LanternWeirsModel" "s" "LLanternWeirsModel$State;"] ++ wsX50 ++ wsX40)
def wsX5_told : List Cond := .code yX5_told cX5_told 3 (some .int) :: ([.fieldLink RX5 31 "LanternWeirsModel" "thrown" "I", .methodLink RX5 70 yX5_isLantern, .instanceMethod yX5_isLantern, .selects RX5 yX5_isLantern yX5_isLantern, .initialized RX5, .code yX5_isLantern cX5_isLantern 2 (some .boolean), .fieldLink RX5 24 "LanternWeirsModel" "s" "LLanternWeirsModel$State;", .methodLink RX5 35 yX5_isIn, .static yX5_isIn, .code yX5_isIn cX5_isIn 3 (some .boolean), .methodLink RX5 103 yX5_lanternTold, .instanceMethod yX5_lanternTold, .selects RX5 yX5_lanternTold yX5_lanternTold, .code yX5_lanternTold cX5_lanternTold 4 (some .int), .arrayClass .int, .methodLink RX5 46 yX5_no, .instanceMethod yX5_no, .selects RX5 yX5_no yX5_no, .code yX5_no cX5_no 2 (some .int)] ++ wsX50 ++ wsX40)
def wsX5_nextOf : List Cond := .code yX5_nextOf cX5_nextOf 3 (some .int) :: ([.fieldLink RX5 24 "LanternWeirsModel" "s" "LLanternWeirsModel$State;", .fieldLink RX5 13 "LanternWeirsModel" "spray" "[I"] ++ wsX50 ++ wsX40)
def wsX5_next : List Cond := .code yX5_next cX5_next 2 (some .int) :: ([.fieldLink RX5 31 "LanternWeirsModel" "thrown" "I", .methodLink RX5 70 yX5_isLantern, .instanceMethod yX5_isLantern, .selects RX5 yX5_isLantern yX5_isLantern, .initialized RX5, .code yX5_isLantern cX5_isLantern 2 (some .boolean), .fieldLink RX5 24 "LanternWeirsModel" "s" "LLanternWeirsModel$State;", .methodLink RX5 35 yX5_isIn, .static yX5_isIn, .code yX5_isIn cX5_isIn 3 (some .boolean), .methodLink RX5 107 yX5_nextOf, .instanceMethod yX5_nextOf, .selects RX5 yX5_nextOf yX5_nextOf, .code yX5_nextOf cX5_nextOf 3 (some .int), .fieldLink RX5 13 "LanternWeirsModel" "spray" "[I", .methodLink RX5 46 yX5_no, .instanceMethod yX5_no, .selects RX5 yX5_no yX5_no, .code yX5_no cX5_no 2 (some .int)] ++ wsX50 ++ wsX40)
def wsX5_count : List Cond := .code yX5_count cX5_count 2 (some .int) :: ([.fieldLink RX5 31 "LanternWeirsModel" "thrown" "I", .fieldLink RX5 24 "LanternWeirsModel" "s" "LLanternWeirsModel$State;", .methodLink RX5 35 yX5_isIn, .static yX5_isIn, .initialized RX5, .code yX5_isIn cX5_isIn 3 (some .boolean), .methodLink RX5 110 yX4_counted, .instanceMethod yX4_counted, .selects RX4 yX4_counted yX4_counted, .initialized RX4, .code yX4_counted cX4_counted 4 (some .int), .arrayClass .int, .fieldLink RX4 52 "LanternWeirsModel$State" "minute" "I", .fieldLink RX4 56 "LanternWeirsModel$State" "lanterns" "I", .fieldLink RX4 3 "LanternWeirsModel$State" "this$0" "LLanternWeirsModel;", .fieldLink RX4 37 "LanternWeirsModel$State" "state" "[I", .fieldLink RX4 34 "LanternWeirsModel$State" "burns" "[I", .fieldLink RX4 19 "LanternWeirsModel$State" "wish" "[I", .methodLink RX5 46 yX5_no, .instanceMethod yX5_no, .selects RX5 yX5_no yX5_no, .code yX5_no cX5_no 2 (some .int)] ++ wsX50 ++ wsX40)
def wsX5_pass_r1 : List Cond := [Cond.fieldLink RX5 31 "LanternWeirsModel" "thrown" "I", Cond.fieldLink RX5 24 "LanternWeirsModel" "s" "LLanternWeirsModel$State;", Cond.methodLink RX5 35 yX5_isIn, Cond.static yX5_isIn, Cond.initialized RX5, Cond.code yX5_isIn cX5_isIn 3 (some .boolean), Cond.methodLink RX5 46 yX5_no, Cond.instanceMethod yX5_no, Cond.selects RX5 yX5_no yX5_no, Cond.code yX5_no cX5_no 2 (some .int), Cond.methodLink RX5 110 yX4_counted, Cond.instanceMethod yX4_counted, Cond.selects RX4 yX4_counted yX4_counted, Cond.initialized RX4, Cond.code yX4_counted cX4_counted 4 (some .int), Cond.arrayClass .int, Cond.fieldLink RX4 52 "LanternWeirsModel$State" "minute" "I", Cond.fieldLink RX4 56 "LanternWeirsModel$State" "lanterns" "I", Cond.fieldLink RX4 3 "LanternWeirsModel$State" "this$0" "LLanternWeirsModel;", Cond.fieldLink RX4 37 "LanternWeirsModel$State" "state" "[I", Cond.fieldLink RX4 34 "LanternWeirsModel$State" "burns" "[I", Cond.fieldLink RX4 19 "LanternWeirsModel$State" "wish" "[I", Cond.methodLink RX5 113 yX4_pass_, Cond.instanceMethod yX4_pass_]
def wsX5_pass_r2 : List Cond := [Cond.selects RX4 yX4_pass_ yX4_pass_, Cond.code yX4_pass_ cX4_pass_ 3 none, Cond.fieldLink RX4 43 "LanternWeirsModel$State" "order" "[I", Cond.fieldLink RX4 28 "LanternWeirsModel$State" "wax" "[I", Cond.methodLink RX4 107 yX4_sort, Cond.instanceMethod yX4_sort, Cond.selects RX4 yX4_sort yX4_sort, Cond.code yX4_sort cX4_sort 4 (some .int), Cond.methodLink RX4 69 yX4_isAhead, Cond.instanceMethod yX4_isAhead, Cond.selects RX4 yX4_isAhead yX4_isAhead, Cond.code yX4_isAhead cX4_isAhead 3 (some .boolean), Cond.fieldLink RX4 25 "LanternWeirsModel$State" "place" "[I", Cond.fieldLink RX4 22 "LanternWeirsModel$State" "lane" "[I", Cond.methodLink RX4 111 yX4_drift, Cond.instanceMethod yX4_drift, Cond.selects RX4 yX4_drift yX4_drift, Cond.code yX4_drift cX4_drift 3 none, Cond.methodLink RX4 76 yX4_isCaught, Cond.instanceMethod yX4_isCaught, Cond.selects RX4 yX4_isCaught yX4_isCaught, Cond.code yX4_isCaught cX4_isCaught 3 (some .boolean), Cond.fieldLink RX4 15 "LanternWeirsModel$State" "frame" "[I", Cond.methodLink RX4 80 yX4_end]
def wsX5_pass_r3 : List Cond := [Cond.instanceMethod yX4_end, Cond.selects RX4 yX4_end yX4_end, Cond.code yX4_end cX4_end 3 none, Cond.fieldLink RX4 40 "LanternWeirsModel$State" "ended" "[I", Cond.methodLink RX4 84 yX4_pass, Cond.instanceMethod yX4_pass, Cond.selects RX4 yX4_pass yX4_pass, Cond.code yX4_pass cX4_pass 4 none, Cond.fieldLink RX4 31 "LanternWeirsModel$State" "wet" "[I", Cond.methodLink RX4 95 Lib.Math.max.name, Cond.static Lib.Math.max.name, Cond.initialized "java/lang/Math", Cond.code Lib.Math.max.name Lib.Math.max.code 2 (some .int), Cond.methodLink RX4 91 yX4_at, Cond.instanceMethod yX4_at, Cond.selects RX4 yX4_at yX4_at, Cond.code yX4_at cX4_at 6 (some .int), Cond.methodLink RX4 101 yX4_isSoaked, Cond.instanceMethod yX4_isSoaked, Cond.selects RX4 yX4_isSoaked yX4_isSoaked, Cond.code yX4_isSoaked cX4_isSoaked 2 (some .boolean)]
def wsX5_pass : List Cond := .code yX5_pass cX5_pass 4 (some .int) :: ((wsX5_pass_r1 ++ (wsX5_pass_r2 ++ wsX5_pass_r3)) ++ wsX50 ++ wsX40)
def wsX5_burns_r1 : List Cond := [Cond.fieldLink RX5 31 "LanternWeirsModel" "thrown" "I", Cond.fieldLink RX5 28 "LanternWeirsModel" "ahead" "LLanternWeirsModel$State;", Cond.fieldLink RX5 24 "LanternWeirsModel" "s" "LLanternWeirsModel$State;", Cond.methodLink RX5 70 yX5_isLantern, Cond.instanceMethod yX5_isLantern, Cond.selects RX5 yX5_isLantern yX5_isLantern, Cond.initialized RX5, Cond.code yX5_isLantern cX5_isLantern 2 (some .boolean), Cond.methodLink RX5 35 yX5_isIn, Cond.static yX5_isIn, Cond.code yX5_isIn cX5_isIn 3 (some .boolean), Cond.methodLink RX5 46 yX5_no, Cond.instanceMethod yX5_no, Cond.selects RX5 yX5_no yX5_no, Cond.code yX5_no cX5_no 2 (some .int), Cond.methodLink RX5 116 yX4_become, Cond.instanceMethod yX4_become, Cond.selects RX4 yX4_become yX4_become, Cond.initialized RX4, Cond.code yX4_become cX4_become 2 none, Cond.fieldLink RX4 52 "LanternWeirsModel$State" "minute" "I", Cond.fieldLink RX4 56 "LanternWeirsModel$State" "lanterns" "I", Cond.fieldLink RX4 15 "LanternWeirsModel$State" "frame" "[I", Cond.fieldLink RX4 19 "LanternWeirsModel$State" "wish" "[I"]
def wsX5_burns_r2 : List Cond := [Cond.fieldLink RX4 22 "LanternWeirsModel$State" "lane" "[I", Cond.fieldLink RX4 25 "LanternWeirsModel$State" "place" "[I", Cond.fieldLink RX4 28 "LanternWeirsModel$State" "wax" "[I", Cond.fieldLink RX4 31 "LanternWeirsModel$State" "wet" "[I", Cond.fieldLink RX4 34 "LanternWeirsModel$State" "burns" "[I", Cond.fieldLink RX4 37 "LanternWeirsModel$State" "state" "[I", Cond.fieldLink RX4 40 "LanternWeirsModel$State" "ended" "[I", Cond.methodLink RX4 59 yX4_copy, Cond.instanceMethod yX4_copy, Cond.selects RX4 yX4_copy yX4_copy, Cond.code yX4_copy cX4_copy 3 none, Cond.methodLink RX4 46 arraycopyName, Cond.native arraycopyName, Cond.static arraycopyName, Cond.initialized "java/lang/System", Cond.methodLink RX5 113 yX4_pass_, Cond.instanceMethod yX4_pass_, Cond.selects RX4 yX4_pass_ yX4_pass_, Cond.code yX4_pass_ cX4_pass_ 3 none, Cond.fieldLink RX4 43 "LanternWeirsModel$State" "order" "[I", Cond.methodLink RX4 107 yX4_sort, Cond.instanceMethod yX4_sort, Cond.selects RX4 yX4_sort yX4_sort, Cond.code yX4_sort cX4_sort 4 (some .int)]
def wsX5_burns_r3 : List Cond := [Cond.methodLink RX4 69 yX4_isAhead, Cond.instanceMethod yX4_isAhead, Cond.selects RX4 yX4_isAhead yX4_isAhead, Cond.code yX4_isAhead cX4_isAhead 3 (some .boolean), Cond.methodLink RX4 111 yX4_drift, Cond.instanceMethod yX4_drift, Cond.selects RX4 yX4_drift yX4_drift, Cond.code yX4_drift cX4_drift 3 none, Cond.fieldLink RX4 3 "LanternWeirsModel$State" "this$0" "LLanternWeirsModel;", Cond.methodLink RX4 76 yX4_isCaught, Cond.instanceMethod yX4_isCaught, Cond.selects RX4 yX4_isCaught yX4_isCaught, Cond.code yX4_isCaught cX4_isCaught 3 (some .boolean), Cond.methodLink RX4 80 yX4_end, Cond.instanceMethod yX4_end, Cond.selects RX4 yX4_end yX4_end, Cond.code yX4_end cX4_end 3 none, Cond.methodLink RX4 84 yX4_pass, Cond.instanceMethod yX4_pass, Cond.selects RX4 yX4_pass yX4_pass, Cond.code yX4_pass cX4_pass 4 none, Cond.methodLink RX4 95 Lib.Math.max.name, Cond.static Lib.Math.max.name, Cond.initialized "java/lang/Math"]
def wsX5_burns_r4 : List Cond := [Cond.code Lib.Math.max.name Lib.Math.max.code 2 (some .int), Cond.methodLink RX4 91 yX4_at, Cond.instanceMethod yX4_at, Cond.selects RX4 yX4_at yX4_at, Cond.code yX4_at cX4_at 6 (some .int), Cond.methodLink RX4 101 yX4_isSoaked, Cond.instanceMethod yX4_isSoaked, Cond.selects RX4 yX4_isSoaked yX4_isSoaked, Cond.code yX4_isSoaked cX4_isSoaked 2 (some .boolean)]
def wsX5_burns : List Cond := .code yX5_burns cX5_burns 3 (some .int) :: ((wsX5_burns_r1 ++ (wsX5_burns_r2 ++ (wsX5_burns_r3 ++ wsX5_burns_r4))) ++ wsX50 ++ wsX40)
def wsX5_foresee_r1 : List Cond := [Cond.fieldLink RX5 31 "LanternWeirsModel" "thrown" "I", Cond.fieldLink RX5 28 "LanternWeirsModel" "ahead" "LLanternWeirsModel$State;", Cond.fieldLink RX5 24 "LanternWeirsModel" "s" "LLanternWeirsModel$State;", Cond.methodLink RX5 35 yX5_isIn, Cond.static yX5_isIn, Cond.initialized RX5, Cond.code yX5_isIn cX5_isIn 3 (some .boolean), Cond.methodLink RX5 46 yX5_no, Cond.instanceMethod yX5_no, Cond.selects RX5 yX5_no yX5_no, Cond.code yX5_no cX5_no 2 (some .int), Cond.methodLink RX5 116 yX4_become, Cond.instanceMethod yX4_become, Cond.selects RX4 yX4_become yX4_become, Cond.initialized RX4, Cond.code yX4_become cX4_become 2 none, Cond.fieldLink RX4 52 "LanternWeirsModel$State" "minute" "I", Cond.fieldLink RX4 56 "LanternWeirsModel$State" "lanterns" "I", Cond.fieldLink RX4 15 "LanternWeirsModel$State" "frame" "[I", Cond.fieldLink RX4 19 "LanternWeirsModel$State" "wish" "[I", Cond.fieldLink RX4 22 "LanternWeirsModel$State" "lane" "[I", Cond.fieldLink RX4 25 "LanternWeirsModel$State" "place" "[I", Cond.fieldLink RX4 28 "LanternWeirsModel$State" "wax" "[I", Cond.fieldLink RX4 31 "LanternWeirsModel$State" "wet" "[I"]
def wsX5_foresee_r2 : List Cond := [Cond.fieldLink RX4 34 "LanternWeirsModel$State" "burns" "[I", Cond.fieldLink RX4 37 "LanternWeirsModel$State" "state" "[I", Cond.fieldLink RX4 40 "LanternWeirsModel$State" "ended" "[I", Cond.methodLink RX4 59 yX4_copy, Cond.instanceMethod yX4_copy, Cond.selects RX4 yX4_copy yX4_copy, Cond.code yX4_copy cX4_copy 3 none, Cond.methodLink RX4 46 arraycopyName, Cond.native arraycopyName, Cond.static arraycopyName, Cond.initialized "java/lang/System", Cond.methodLink RX5 113 yX4_pass_, Cond.instanceMethod yX4_pass_, Cond.selects RX4 yX4_pass_ yX4_pass_, Cond.code yX4_pass_ cX4_pass_ 3 none, Cond.fieldLink RX4 43 "LanternWeirsModel$State" "order" "[I", Cond.methodLink RX4 107 yX4_sort, Cond.instanceMethod yX4_sort, Cond.selects RX4 yX4_sort yX4_sort, Cond.code yX4_sort cX4_sort 4 (some .int), Cond.methodLink RX4 69 yX4_isAhead, Cond.instanceMethod yX4_isAhead, Cond.selects RX4 yX4_isAhead yX4_isAhead, Cond.code yX4_isAhead cX4_isAhead 3 (some .boolean)]
def wsX5_foresee_r3 : List Cond := [Cond.methodLink RX4 111 yX4_drift, Cond.instanceMethod yX4_drift, Cond.selects RX4 yX4_drift yX4_drift, Cond.code yX4_drift cX4_drift 3 none, Cond.fieldLink RX4 3 "LanternWeirsModel$State" "this$0" "LLanternWeirsModel;", Cond.methodLink RX4 76 yX4_isCaught, Cond.instanceMethod yX4_isCaught, Cond.selects RX4 yX4_isCaught yX4_isCaught, Cond.code yX4_isCaught cX4_isCaught 3 (some .boolean), Cond.methodLink RX4 80 yX4_end, Cond.instanceMethod yX4_end, Cond.selects RX4 yX4_end yX4_end, Cond.code yX4_end cX4_end 3 none, Cond.methodLink RX4 84 yX4_pass, Cond.instanceMethod yX4_pass, Cond.selects RX4 yX4_pass yX4_pass, Cond.code yX4_pass cX4_pass 4 none, Cond.methodLink RX4 95 Lib.Math.max.name, Cond.static Lib.Math.max.name, Cond.initialized "java/lang/Math", Cond.code Lib.Math.max.name Lib.Math.max.code 2 (some .int), Cond.methodLink RX4 91 yX4_at, Cond.instanceMethod yX4_at, Cond.selects RX4 yX4_at yX4_at]
def wsX5_foresee_r4 : List Cond := [Cond.code yX4_at cX4_at 6 (some .int), Cond.methodLink RX4 101 yX4_isSoaked, Cond.instanceMethod yX4_isSoaked, Cond.selects RX4 yX4_isSoaked yX4_isSoaked, Cond.code yX4_isSoaked cX4_isSoaked 2 (some .boolean), Cond.methodLink RX5 110 yX4_counted, Cond.instanceMethod yX4_counted, Cond.selects RX4 yX4_counted yX4_counted, Cond.code yX4_counted cX4_counted 4 (some .int), Cond.arrayClass .int]
def wsX5_foresee : List Cond := .code yX5_foresee cX5_foresee 4 (some .int) :: ((wsX5_foresee_r1 ++ (wsX5_foresee_r2 ++ (wsX5_foresee_r3 ++ wsX5_foresee_r4))) ++ wsX50 ++ wsX40)
def wsX5_comes_r1 : List Cond := [Cond.fieldLink RX5 28 "LanternWeirsModel" "ahead" "LLanternWeirsModel$State;", Cond.fieldLink RX5 24 "LanternWeirsModel" "s" "LLanternWeirsModel$State;", Cond.methodLink RX5 116 yX4_become, Cond.instanceMethod yX4_become, Cond.selects RX4 yX4_become yX4_become, Cond.initialized RX4, Cond.code yX4_become cX4_become 2 none, Cond.fieldLink RX4 52 "LanternWeirsModel$State" "minute" "I", Cond.fieldLink RX4 56 "LanternWeirsModel$State" "lanterns" "I", Cond.fieldLink RX4 15 "LanternWeirsModel$State" "frame" "[I", Cond.fieldLink RX4 19 "LanternWeirsModel$State" "wish" "[I", Cond.fieldLink RX4 22 "LanternWeirsModel$State" "lane" "[I", Cond.fieldLink RX4 25 "LanternWeirsModel$State" "place" "[I", Cond.fieldLink RX4 28 "LanternWeirsModel$State" "wax" "[I", Cond.fieldLink RX4 31 "LanternWeirsModel$State" "wet" "[I", Cond.fieldLink RX4 34 "LanternWeirsModel$State" "burns" "[I", Cond.fieldLink RX4 37 "LanternWeirsModel$State" "state" "[I", Cond.fieldLink RX4 40 "LanternWeirsModel$State" "ended" "[I", Cond.methodLink RX4 59 yX4_copy, Cond.instanceMethod yX4_copy, Cond.selects RX4 yX4_copy yX4_copy, Cond.code yX4_copy cX4_copy 3 none, Cond.methodLink RX4 46 arraycopyName, Cond.native arraycopyName]
def wsX5_comes_r2 : List Cond := [Cond.static arraycopyName, Cond.initialized "java/lang/System", Cond.methodLink RX5 66 yX4_launch, Cond.instanceMethod yX4_launch, Cond.selects RX4 yX4_launch yX4_launch, Cond.code yX4_launch cX4_launch 5 (some .int), Cond.methodLink RX5 113 yX4_pass_, Cond.instanceMethod yX4_pass_, Cond.selects RX4 yX4_pass_ yX4_pass_, Cond.code yX4_pass_ cX4_pass_ 3 none, Cond.fieldLink RX4 43 "LanternWeirsModel$State" "order" "[I", Cond.methodLink RX4 107 yX4_sort, Cond.instanceMethod yX4_sort, Cond.selects RX4 yX4_sort yX4_sort, Cond.code yX4_sort cX4_sort 4 (some .int), Cond.methodLink RX4 69 yX4_isAhead, Cond.instanceMethod yX4_isAhead, Cond.selects RX4 yX4_isAhead yX4_isAhead, Cond.code yX4_isAhead cX4_isAhead 3 (some .boolean), Cond.methodLink RX4 111 yX4_drift, Cond.instanceMethod yX4_drift, Cond.selects RX4 yX4_drift yX4_drift, Cond.code yX4_drift cX4_drift 3 none, Cond.fieldLink RX4 3 "LanternWeirsModel$State" "this$0" "LLanternWeirsModel;"]
def wsX5_comes_r3 : List Cond := [Cond.methodLink RX4 76 yX4_isCaught, Cond.instanceMethod yX4_isCaught, Cond.selects RX4 yX4_isCaught yX4_isCaught, Cond.code yX4_isCaught cX4_isCaught 3 (some .boolean), Cond.methodLink RX4 80 yX4_end, Cond.instanceMethod yX4_end, Cond.selects RX4 yX4_end yX4_end, Cond.code yX4_end cX4_end 3 none, Cond.methodLink RX4 84 yX4_pass, Cond.instanceMethod yX4_pass, Cond.selects RX4 yX4_pass yX4_pass, Cond.code yX4_pass cX4_pass 4 none, Cond.methodLink RX4 95 Lib.Math.max.name, Cond.static Lib.Math.max.name, Cond.initialized "java/lang/Math", Cond.code Lib.Math.max.name Lib.Math.max.code 2 (some .int), Cond.methodLink RX4 91 yX4_at, Cond.instanceMethod yX4_at, Cond.selects RX4 yX4_at yX4_at, Cond.code yX4_at cX4_at 6 (some .int), Cond.methodLink RX4 101 yX4_isSoaked, Cond.instanceMethod yX4_isSoaked, Cond.selects RX4 yX4_isSoaked yX4_isSoaked, Cond.code yX4_isSoaked cX4_isSoaked 2 (some .boolean)]
def wsX5_comes : List Cond := .code yX5_comes cX5_comes 5 (some .int) :: ((wsX5_comes_r1 ++ (wsX5_comes_r2 ++ wsX5_comes_r3)) ++ wsX50 ++ wsX40)
def wsX5_advise_r1 : List Cond := [Cond.fieldLink RX5 31 "LanternWeirsModel" "thrown" "I", Cond.methodLink RX5 35 yX5_isIn, Cond.static yX5_isIn, Cond.initialized RX5, Cond.code yX5_isIn cX5_isIn 3 (some .boolean), Cond.methodLink RX5 46 yX5_no, Cond.instanceMethod yX5_no, Cond.selects RX5 yX5_no yX5_no, Cond.code yX5_no cX5_no 2 (some .int), Cond.methodLink RX5 120 yX5_comes, Cond.instanceMethod yX5_comes, Cond.selects RX5 yX5_comes yX5_comes, Cond.code yX5_comes cX5_comes 5 (some .int), Cond.fieldLink RX5 28 "LanternWeirsModel" "ahead" "LLanternWeirsModel$State;", Cond.fieldLink RX5 24 "LanternWeirsModel" "s" "LLanternWeirsModel$State;", Cond.methodLink RX5 116 yX4_become, Cond.instanceMethod yX4_become, Cond.selects RX4 yX4_become yX4_become, Cond.initialized RX4, Cond.code yX4_become cX4_become 2 none, Cond.fieldLink RX4 52 "LanternWeirsModel$State" "minute" "I", Cond.fieldLink RX4 56 "LanternWeirsModel$State" "lanterns" "I", Cond.fieldLink RX4 15 "LanternWeirsModel$State" "frame" "[I", Cond.fieldLink RX4 19 "LanternWeirsModel$State" "wish" "[I"]
def wsX5_advise_r2 : List Cond := [Cond.fieldLink RX4 22 "LanternWeirsModel$State" "lane" "[I", Cond.fieldLink RX4 25 "LanternWeirsModel$State" "place" "[I", Cond.fieldLink RX4 28 "LanternWeirsModel$State" "wax" "[I", Cond.fieldLink RX4 31 "LanternWeirsModel$State" "wet" "[I", Cond.fieldLink RX4 34 "LanternWeirsModel$State" "burns" "[I", Cond.fieldLink RX4 37 "LanternWeirsModel$State" "state" "[I", Cond.fieldLink RX4 40 "LanternWeirsModel$State" "ended" "[I", Cond.methodLink RX4 59 yX4_copy, Cond.instanceMethod yX4_copy, Cond.selects RX4 yX4_copy yX4_copy, Cond.code yX4_copy cX4_copy 3 none, Cond.methodLink RX4 46 arraycopyName, Cond.native arraycopyName, Cond.static arraycopyName, Cond.initialized "java/lang/System", Cond.methodLink RX5 66 yX4_launch, Cond.instanceMethod yX4_launch, Cond.selects RX4 yX4_launch yX4_launch, Cond.code yX4_launch cX4_launch 5 (some .int), Cond.methodLink RX5 113 yX4_pass_, Cond.instanceMethod yX4_pass_, Cond.selects RX4 yX4_pass_ yX4_pass_, Cond.code yX4_pass_ cX4_pass_ 3 none, Cond.fieldLink RX4 43 "LanternWeirsModel$State" "order" "[I"]
def wsX5_advise_r3 : List Cond := [Cond.methodLink RX4 107 yX4_sort, Cond.instanceMethod yX4_sort, Cond.selects RX4 yX4_sort yX4_sort, Cond.code yX4_sort cX4_sort 4 (some .int), Cond.methodLink RX4 69 yX4_isAhead, Cond.instanceMethod yX4_isAhead, Cond.selects RX4 yX4_isAhead yX4_isAhead, Cond.code yX4_isAhead cX4_isAhead 3 (some .boolean), Cond.methodLink RX4 111 yX4_drift, Cond.instanceMethod yX4_drift, Cond.selects RX4 yX4_drift yX4_drift, Cond.code yX4_drift cX4_drift 3 none, Cond.fieldLink RX4 3 "LanternWeirsModel$State" "this$0" "LLanternWeirsModel;", Cond.methodLink RX4 76 yX4_isCaught, Cond.instanceMethod yX4_isCaught, Cond.selects RX4 yX4_isCaught yX4_isCaught, Cond.code yX4_isCaught cX4_isCaught 3 (some .boolean), Cond.methodLink RX4 80 yX4_end, Cond.instanceMethod yX4_end, Cond.selects RX4 yX4_end yX4_end, Cond.code yX4_end cX4_end 3 none, Cond.methodLink RX4 84 yX4_pass, Cond.instanceMethod yX4_pass, Cond.selects RX4 yX4_pass yX4_pass]
def wsX5_advise_r4 : List Cond := [Cond.code yX4_pass cX4_pass 4 none, Cond.methodLink RX4 95 Lib.Math.max.name, Cond.static Lib.Math.max.name, Cond.initialized "java/lang/Math", Cond.code Lib.Math.max.name Lib.Math.max.code 2 (some .int), Cond.methodLink RX4 91 yX4_at, Cond.instanceMethod yX4_at, Cond.selects RX4 yX4_at yX4_at, Cond.code yX4_at cX4_at 6 (some .int), Cond.methodLink RX4 101 yX4_isSoaked, Cond.instanceMethod yX4_isSoaked, Cond.selects RX4 yX4_isSoaked yX4_isSoaked, Cond.code yX4_isSoaked cX4_isSoaked 2 (some .boolean)]
def wsX5_advise : List Cond := .code yX5_advise cX5_advise 6 (some .int) :: ((wsX5_advise_r1 ++ (wsX5_advise_r2 ++ (wsX5_advise_r3 ++ wsX5_advise_r4))) ++ wsX50 ++ wsX40)
def wsX5_mean : List Cond := .code yX5_mean cX5_mean 4 (some .double) :: ([.fieldLink RX5 31 "LanternWeirsModel" "thrown" "I", .fieldLink RX5 24 "LanternWeirsModel" "s" "LLanternWeirsModel$State;", .methodLink RX5 110 yX4_counted, .instanceMethod yX4_counted, .selects RX4 yX4_counted yX4_counted, .initialized RX4, .code yX4_counted cX4_counted 4 (some .int), .arrayClass .int, .fieldLink RX4 52 "LanternWeirsModel$State" "minute" "I", .fieldLink RX4 56 "LanternWeirsModel$State" "lanterns" "I", .fieldLink RX4 3 "LanternWeirsModel$State" "this$0" "LLanternWeirsModel;", .fieldLink RX4 37 "LanternWeirsModel$State" "state" "[I", .fieldLink RX4 34 "LanternWeirsModel$State" "burns" "[I", .fieldLink RX4 19 "LanternWeirsModel$State" "wish" "[I"] ++ wsX50 ++ wsX40)
def wsX5_digest_r1 : List Cond := [Cond.fieldLink RX5 31 "LanternWeirsModel" "thrown" "I", Cond.constantLong RX5 123 (1297), Cond.constantLong RX5 125 (31), Cond.fieldLink RX5 24 "LanternWeirsModel" "s" "LLanternWeirsModel$State;", Cond.fieldLink RX5 7 "LanternWeirsModel" "current" "[I", Cond.methodLink RX5 110 yX4_counted, Cond.instanceMethod yX4_counted, Cond.selects RX4 yX4_counted yX4_counted, Cond.initialized RX4, Cond.code yX4_counted cX4_counted 4 (some .int), Cond.arrayClass .int, Cond.fieldLink RX4 52 "LanternWeirsModel$State" "minute" "I", Cond.fieldLink RX4 56 "LanternWeirsModel$State" "lanterns" "I", Cond.fieldLink RX4 3 "LanternWeirsModel$State" "this$0" "LLanternWeirsModel;", Cond.fieldLink RX4 37 "LanternWeirsModel$State" "state" "[I", Cond.fieldLink RX4 34 "LanternWeirsModel$State" "burns" "[I", Cond.fieldLink RX4 19 "LanternWeirsModel$State" "wish" "[I", Cond.methodLink RX5 63 yX5_riverTold, Cond.instanceMethod yX5_riverTold, Cond.selects RX5 yX5_riverTold yX5_riverTold, Cond.initialized RX5, Cond.code yX5_riverTold cX5_riverTold 4 (some .int), Cond.fieldLink RX5 13 "LanternWeirsModel" "spray" "[I", Cond.fieldLink RX5 16 "LanternWeirsModel" "net" "[I"]
def wsX5_digest_r2 : List Cond := [Cond.methodLink RX5 59 yX4_at, Cond.instanceMethod yX4_at, Cond.selects RX4 yX4_at yX4_at, Cond.code yX4_at cX4_at 6 (some .int), Cond.fieldLink RX4 22 "LanternWeirsModel$State" "lane" "[I", Cond.fieldLink RX4 25 "LanternWeirsModel$State" "place" "[I", Cond.methodLink RX5 103 yX5_lanternTold, Cond.instanceMethod yX5_lanternTold, Cond.selects RX5 yX5_lanternTold yX5_lanternTold, Cond.code yX5_lanternTold cX5_lanternTold 4 (some .int), Cond.methodLink RX5 107 yX5_nextOf, Cond.instanceMethod yX5_nextOf, Cond.selects RX5 yX5_nextOf yX5_nextOf, Cond.code yX5_nextOf cX5_nextOf 3 (some .int)]
def wsX5_digest : List Cond := .code yX5_digest cX5_digest 7 (some .long) :: ((wsX5_digest_r1 ++ wsX5_digest_r2) ++ wsX50 ++ wsX40)
def wsJ9_max_7cf53 : List Cond := .code yJ9_max_7cf53 cJ9_max_7cf53 2 (some .int) :: ([])
def wsL_setCurrent_r1 : List Cond := [Cond.classLink RL 13 "java/lang/IndexOutOfBoundsException", Cond.classLink RL 15 "java/lang/IllegalArgumentException", Cond.methodLink RL 7 yX3_setCurrent, Cond.instanceMethod yX3_setCurrent, Cond.selects RX3 yX3_setCurrent yX3_setCurrent, Cond.initialized RX3, Cond.code yX3_setCurrent cX3_setCurrent 4 (some .int), Cond.classLink RX3 30 "java/lang/IndexOutOfBoundsException", Cond.initialized "java/lang/IndexOutOfBoundsException", Cond.classLink RX3 41 "java/lang/IllegalArgumentException", Cond.initialized "java/lang/IllegalArgumentException", Cond.fieldLink RX3 10 "LanternWeirs" "bed" "LLanternWeirs$Bed;", Cond.fieldLink RX3 46 "LanternWeirs$Bed" "currents" "LLanternWeirs$Row;", Cond.methodLink RX3 26 yX3_isLane, Cond.static yX3_isLane, Cond.code yX3_isLane cX3_isLane 1 (some .boolean), Cond.methodLink RX3 37 yX3_isWithin, Cond.static yX3_isWithin, Cond.code yX3_isWithin cX3_isWithin 3 (some .boolean), Cond.methodLink RX3 50 yX2_get, Cond.instanceMethod yX2_get, Cond.selects RX2 yX2_get yX2_get, Cond.initialized RX2, Cond.code yX2_get cX2_get 2 (some .int)]
def wsL_setCurrent_r2 : List Cond := [Cond.fieldLink RX2 7 "LanternWeirs$Row" "cells" "[I", Cond.methodLink RX3 56 yX2_put, Cond.instanceMethod yX2_put, Cond.selects RX2 yX2_put yX2_put, Cond.code yX2_put cX2_put 3 none]
def wsL_setCurrent : List Cond := .codeWith yL_setCurrent cL_setCurrent 5 (some .int) [(0, 10, 13, 13), (0, 10, 17, 15)] :: ((wsL_setCurrent_r1 ++ wsL_setCurrent_r2) ++ wsX30 ++ wsX00 ++ wsX20 ++ (vx_atS RX3 34 "java/lang/IndexOutOfBoundsException" ["java/lang/RuntimeException", "java/lang/Exception"]).filter goodWord ++ (vx_atS RX3 45 "java/lang/IllegalArgumentException" ["java/lang/RuntimeException", "java/lang/Exception"]).filter goodWord)
def wsL_weir_r1 : List Cond := [Cond.classLink RL 13 "java/lang/IndexOutOfBoundsException", Cond.classLink RL 15 "java/lang/IllegalArgumentException", Cond.classLink RL 20 "java/lang/IllegalStateException", Cond.methodLink RL 17 yX3_weir, Cond.instanceMethod yX3_weir, Cond.selects RX3 yX3_weir yX3_weir, Cond.initialized RX3, Cond.code yX3_weir cX3_weir 3 (some .int), Cond.classLink RX3 30 "java/lang/IndexOutOfBoundsException", Cond.initialized "java/lang/IndexOutOfBoundsException", Cond.classLink RX3 41 "java/lang/IllegalArgumentException", Cond.initialized "java/lang/IllegalArgumentException", Cond.classLink RX3 71 "java/lang/IllegalStateException", Cond.initialized "java/lang/IllegalStateException", Cond.fieldLink RX3 10 "LanternWeirs" "bed" "LLanternWeirs$Bed;", Cond.fieldLink RX3 64 "LanternWeirs$Bed" "weirs" "I", Cond.fieldLink RX3 68 "LanternWeirs$Bed" "sprays" "LLanternWeirs$Row;", Cond.methodLink RX3 37 yX3_isWithin, Cond.static yX3_isWithin, Cond.code yX3_isWithin cX3_isWithin 3 (some .boolean), Cond.methodLink RX3 50 yX2_get, Cond.instanceMethod yX2_get, Cond.selects RX2 yX2_get yX2_get, Cond.initialized RX2]
def wsL_weir_r2 : List Cond := [Cond.code yX2_get cX2_get 2 (some .int), Cond.fieldLink RX2 7 "LanternWeirs$Row" "cells" "[I", Cond.methodLink RX3 76 yX0_addWeir, Cond.instanceMethod yX0_addWeir, Cond.selects RX0 yX0_addWeir yX0_addWeir, Cond.initialized RX0, Cond.code yX0_addWeir cX0_addWeir 3 (some .int), Cond.fieldLink RX0 20 "LanternWeirs$Bed" "sprays" "LLanternWeirs$Row;", Cond.fieldLink RX0 30 "LanternWeirs$Bed" "weirs" "I", Cond.methodLink RX0 26 yX2_put, Cond.instanceMethod yX2_put, Cond.selects RX2 yX2_put yX2_put, Cond.code yX2_put cX2_put 3 none]
def wsL_weir : List Cond := .codeWith yL_weir cL_weir 5 (some .int) [(0, 10, 13, 13), (0, 10, 17, 15), (0, 10, 21, 20)] :: ((wsL_weir_r1 ++ wsL_weir_r2) ++ wsX30 ++ wsX00 ++ wsX20 ++ (vx_atS RX3 34 "java/lang/IndexOutOfBoundsException" ["java/lang/RuntimeException", "java/lang/Exception"]).filter goodWord ++ (vx_atS RX3 45 "java/lang/IllegalArgumentException" ["java/lang/RuntimeException", "java/lang/Exception"]).filter goodWord ++ (vx_atS RX3 75 "java/lang/IllegalStateException" ["java/lang/RuntimeException", "java/lang/Exception"]).filter goodWord)
def wsL_net_r1 : List Cond := [Cond.classLink RL 13 "java/lang/IndexOutOfBoundsException", Cond.classLink RL 20 "java/lang/IllegalStateException", Cond.methodLink RL 22 yX3_net, Cond.instanceMethod yX3_net, Cond.selects RX3 yX3_net yX3_net, Cond.initialized RX3, Cond.code yX3_net cX3_net 3 (some .int), Cond.classLink RX3 30 "java/lang/IndexOutOfBoundsException", Cond.initialized "java/lang/IndexOutOfBoundsException", Cond.classLink RX3 71 "java/lang/IllegalStateException", Cond.initialized "java/lang/IllegalStateException", Cond.fieldLink RX3 10 "LanternWeirs" "bed" "LLanternWeirs$Bed;", Cond.fieldLink RX3 82 "LanternWeirs$Bed" "netCount" "I", Cond.methodLink RX3 26 yX3_isLane, Cond.static yX3_isLane, Cond.code yX3_isLane cX3_isLane 1 (some .boolean), Cond.methodLink RX3 37 yX3_isWithin, Cond.static yX3_isWithin, Cond.code yX3_isWithin cX3_isWithin 3 (some .boolean), Cond.methodLink RX3 85 yX0_hasNet, Cond.instanceMethod yX0_hasNet, Cond.selects RX0 yX0_hasNet yX0_hasNet, Cond.initialized RX0, Cond.code yX0_hasNet cX0_hasNet 3 (some .boolean)]
def wsL_net_r2 : List Cond := [Cond.fieldLink RX0 23 "LanternWeirs$Bed" "nets" "LLanternWeirs$Row;", Cond.methodLink RX0 37 yX2_get, Cond.instanceMethod yX2_get, Cond.selects RX2 yX2_get yX2_get, Cond.initialized RX2, Cond.code yX2_get cX2_get 2 (some .int), Cond.fieldLink RX2 7 "LanternWeirs$Row" "cells" "[I", Cond.methodLink RX3 91 yX0_addNet, Cond.instanceMethod yX0_addNet, Cond.selects RX0 yX0_addNet yX0_addNet, Cond.code yX0_addNet cX0_addNet 3 (some .int), Cond.fieldLink RX0 34 "LanternWeirs$Bed" "netCount" "I", Cond.methodLink RX0 26 yX2_put, Cond.instanceMethod yX2_put, Cond.selects RX2 yX2_put yX2_put, Cond.code yX2_put cX2_put 3 none]
def wsL_net : List Cond := .codeWith yL_net cL_net 5 (some .int) [(0, 10, 13, 13), (0, 10, 17, 20)] :: ((wsL_net_r1 ++ wsL_net_r2) ++ wsX30 ++ wsX00 ++ wsX20 ++ (vx_atS RX3 34 "java/lang/IndexOutOfBoundsException" ["java/lang/RuntimeException", "java/lang/Exception"]).filter goodWord ++ (vx_atS RX3 75 "java/lang/IllegalStateException" ["java/lang/RuntimeException", "java/lang/Exception"]).filter goodWord)
def wsL_river_r1 : List Cond := [Cond.classLink RL 13 "java/lang/IndexOutOfBoundsException", Cond.methodLink RL 25 yX3_river, Cond.instanceMethod yX3_river, Cond.selects RX3 yX3_river yX3_river, Cond.initialized RX3, Cond.code yX3_river cX3_river 4 (some .int), Cond.classLink RX3 30 "java/lang/IndexOutOfBoundsException", Cond.initialized "java/lang/IndexOutOfBoundsException", Cond.methodLink RX3 26 yX3_isLane, Cond.static yX3_isLane, Cond.code yX3_isLane cX3_isLane 1 (some .boolean), Cond.methodLink RX3 37 yX3_isWithin, Cond.static yX3_isWithin, Cond.code yX3_isWithin cX3_isWithin 3 (some .boolean), Cond.methodLink RX3 94 yX3_isPlace, Cond.static yX3_isPlace, Cond.code yX3_isPlace cX3_isPlace 1 (some .boolean), Cond.methodLink RX3 99 yX3_riverFact, Cond.instanceMethod yX3_riverFact, Cond.selects RX3 yX3_riverFact yX3_riverFact, Cond.code yX3_riverFact cX3_riverFact 4 (some .int), Cond.fieldLink RX3 19 "LanternWeirs" "fleet" "LLanternWeirs$Fleet;", Cond.fieldLink RX3 10 "LanternWeirs" "bed" "LLanternWeirs$Bed;", Cond.fieldLink RX3 68 "LanternWeirs$Bed" "sprays" "LLanternWeirs$Row;"]
def wsL_river_r2 : List Cond := [Cond.methodLink RX3 194 yX1_floatingAt, Cond.instanceMethod yX1_floatingAt, Cond.selects RX1 yX1_floatingAt yX1_floatingAt, Cond.initialized RX1, Cond.code yX1_floatingAt cX1_floatingAt 5 (some .int), Cond.fieldLink RX1 44 "LanternWeirs$Fleet" "crowd" "LLanternWeirs$Row;", Cond.methodLink RX1 92 yX1_cell, Cond.static yX1_cell, Cond.code yX1_cell cX1_cell 3 (some .int), Cond.methodLink RX1 80 yX2_get, Cond.instanceMethod yX2_get, Cond.selects RX2 yX2_get yX2_get, Cond.initialized RX2, Cond.code yX2_get cX2_get 2 (some .int), Cond.fieldLink RX2 7 "LanternWeirs$Row" "cells" "[I", Cond.methodLink RX3 50 yX2_get, Cond.methodLink RX3 85 yX0_hasNet, Cond.instanceMethod yX0_hasNet, Cond.selects RX0 yX0_hasNet yX0_hasNet, Cond.initialized RX0, Cond.code yX0_hasNet cX0_hasNet 3 (some .boolean), Cond.fieldLink RX0 23 "LanternWeirs$Bed" "nets" "LLanternWeirs$Row;", Cond.methodLink RX0 37 yX2_get, Cond.methodLink RX3 197 yX1_caughtAt]
def wsL_river_r3 : List Cond := [Cond.instanceMethod yX1_caughtAt, Cond.selects RX1 yX1_caughtAt yX1_caughtAt, Cond.code yX1_caughtAt cX1_caughtAt 5 (some .int), Cond.fieldLink RX1 54 "LanternWeirs$Fleet" "size" "I", Cond.fieldLink RX1 38 "LanternWeirs$Fleet" "states" "LLanternWeirs$Row;", Cond.fieldLink RX1 23 "LanternWeirs$Fleet" "lanes" "LLanternWeirs$Row;", Cond.fieldLink RX1 26 "LanternWeirs$Fleet" "places" "LLanternWeirs$Row;"]
def wsL_river : List Cond := .codeWith yL_river cL_river 6 (some .int) [(0, 12, 15, 13)] :: ((wsL_river_r1 ++ (wsL_river_r2 ++ wsL_river_r3)) ++ wsX30 ++ wsX00 ++ wsX10 ++ wsX20 ++ (vx_atS RX3 34 "java/lang/IndexOutOfBoundsException" ["java/lang/RuntimeException", "java/lang/Exception"]).filter goodWord)
def wsL_launch_r1 : List Cond := [Cond.classLink RL 13 "java/lang/IndexOutOfBoundsException", Cond.classLink RL 15 "java/lang/IllegalArgumentException", Cond.classLink RL 20 "java/lang/IllegalStateException", Cond.methodLink RL 29 yX3_launch, Cond.instanceMethod yX3_launch, Cond.selects RX3 yX3_launch yX3_launch, Cond.initialized RX3, Cond.code yX3_launch cX3_launch 5 (some .int), Cond.classLink RX3 30 "java/lang/IndexOutOfBoundsException", Cond.initialized "java/lang/IndexOutOfBoundsException", Cond.classLink RX3 41 "java/lang/IllegalArgumentException", Cond.initialized "java/lang/IllegalArgumentException", Cond.classLink RX3 71 "java/lang/IllegalStateException", Cond.initialized "java/lang/IllegalStateException", Cond.fieldLink RX3 19 "LanternWeirs" "fleet" "LLanternWeirs$Fleet;", Cond.fieldLink RX3 110 "LanternWeirs$Fleet" "size" "I", Cond.methodLink RX3 103 yX3_isFrame, Cond.static yX3_isFrame, Cond.code yX3_isFrame cX3_isFrame 1 (some .boolean), Cond.methodLink RX3 37 yX3_isWithin, Cond.static yX3_isWithin, Cond.code yX3_isWithin cX3_isWithin 3 (some .boolean), Cond.methodLink RX3 26 yX3_isLane, Cond.static yX3_isLane]
def wsL_launch_r2 : List Cond := [Cond.code yX3_isLane cX3_isLane 1 (some .boolean), Cond.methodLink RX3 94 yX3_isPlace, Cond.static yX3_isPlace, Cond.code yX3_isPlace cX3_isPlace 1 (some .boolean), Cond.methodLink RX3 115 yX1_add, Cond.instanceMethod yX1_add, Cond.selects RX1 yX1_add yX1_add, Cond.initialized RX1, Cond.code yX1_add cX1_add 6 (some .int), Cond.fieldLink RX1 54 "LanternWeirs$Fleet" "size" "I", Cond.fieldLink RX1 16 "LanternWeirs$Fleet" "frames" "LLanternWeirs$Row;", Cond.fieldLink RX1 20 "LanternWeirs$Fleet" "wishes" "LLanternWeirs$Row;", Cond.fieldLink RX1 23 "LanternWeirs$Fleet" "lanes" "LLanternWeirs$Row;", Cond.fieldLink RX1 26 "LanternWeirs$Fleet" "places" "LLanternWeirs$Row;", Cond.fieldLink RX1 29 "LanternWeirs$Fleet" "waxes" "LLanternWeirs$Row;", Cond.fieldLink RX1 32 "LanternWeirs$Fleet" "wets" "LLanternWeirs$Row;", Cond.fieldLink RX1 35 "LanternWeirs$Fleet" "burning" "LLanternWeirs$Row;", Cond.fieldLink RX1 38 "LanternWeirs$Fleet" "states" "LLanternWeirs$Row;", Cond.fieldLink RX1 41 "LanternWeirs$Fleet" "ends" "LLanternWeirs$Row;", Cond.methodLink RX1 61 yX2_put, Cond.instanceMethod yX2_put, Cond.selects RX2 yX2_put yX2_put, Cond.initialized RX2, Cond.code yX2_put cX2_put 3 none]
def wsL_launch_r3 : List Cond := [Cond.fieldLink RX2 7 "LanternWeirs$Row" "cells" "[I", Cond.static yX3_waxOf, Cond.code yX3_waxOf cX3_waxOf 1 (some .int), Cond.methodLink RX1 69 yX1_crowdBy, Cond.instanceMethod yX1_crowdBy, Cond.selects RX1 yX1_crowdBy yX1_crowdBy, Cond.code yX1_crowdBy cX1_crowdBy 4 none, Cond.fieldLink RX1 44 "LanternWeirs$Fleet" "crowd" "LLanternWeirs$Row;", Cond.methodLink RX1 80 yX2_get, Cond.instanceMethod yX2_get, Cond.selects RX2 yX2_get yX2_get, Cond.code yX2_get cX2_get 2 (some .int), Cond.methodLink RX1 92 yX1_cell, Cond.static yX1_cell, Cond.code yX1_cell cX1_cell 3 (some .int)]
def wsL_launch : List Cond := .codeWith yL_launch cL_launch 7 (some .int) [(0, 14, 17, 13), (0, 14, 21, 15), (0, 14, 25, 20)] :: ((wsL_launch_r1 ++ (wsL_launch_r2 ++ wsL_launch_r3)) ++ wsX30 ++ wsX10 ++ wsX20 ++ (vx_atS RX3 34 "java/lang/IndexOutOfBoundsException" ["java/lang/RuntimeException", "java/lang/Exception"]).filter goodWord ++ (vx_atS RX3 45 "java/lang/IllegalArgumentException" ["java/lang/RuntimeException", "java/lang/Exception"]).filter goodWord ++ (vx_atS RX3 75 "java/lang/IllegalStateException" ["java/lang/RuntimeException", "java/lang/Exception"]).filter goodWord)
def wsL_push_r1 : List Cond := [Cond.classLink RL 13 "java/lang/IndexOutOfBoundsException", Cond.classLink RL 20 "java/lang/IllegalStateException", Cond.methodLink RL 33 yX3_push, Cond.instanceMethod yX3_push, Cond.selects RX3 yX3_push yX3_push, Cond.initialized RX3, Cond.code yX3_push cX3_push 4 (some .int), Cond.classLink RX3 30 "java/lang/IndexOutOfBoundsException", Cond.initialized "java/lang/IndexOutOfBoundsException", Cond.classLink RX3 71 "java/lang/IllegalStateException", Cond.initialized "java/lang/IllegalStateException", Cond.fieldLink RX3 19 "LanternWeirs" "fleet" "LLanternWeirs$Fleet;", Cond.fieldLink RX3 129 "LanternWeirs$Fleet" "lanes" "LLanternWeirs$Row;", Cond.fieldLink RX3 132 "LanternWeirs$Fleet" "places" "LLanternWeirs$Row;", Cond.methodLink RX3 119 yX1_has, Cond.instanceMethod yX1_has, Cond.selects RX1 yX1_has yX1_has, Cond.initialized RX1, Cond.code yX1_has cX1_has 2 (some .boolean), Cond.fieldLink RX1 54 "LanternWeirs$Fleet" "size" "I", Cond.static yX3_isWithin, Cond.code yX3_isWithin cX3_isWithin 3 (some .boolean), Cond.methodLink RX3 26 yX3_isLane, Cond.static yX3_isLane]
def wsL_push_r2 : List Cond := [Cond.code yX3_isLane cX3_isLane 1 (some .boolean), Cond.methodLink RX3 37 yX3_isWithin, Cond.methodLink RX3 124 yX1_isAfloat, Cond.instanceMethod yX1_isAfloat, Cond.selects RX1 yX1_isAfloat yX1_isAfloat, Cond.code yX1_isAfloat cX1_isAfloat 2 (some .boolean), Cond.fieldLink RX1 38 "LanternWeirs$Fleet" "states" "LLanternWeirs$Row;", Cond.methodLink RX1 76 yX1_has, Cond.methodLink RX1 80 yX2_get, Cond.instanceMethod yX2_get, Cond.selects RX2 yX2_get yX2_get, Cond.initialized RX2, Cond.code yX2_get cX2_get 2 (some .int), Cond.fieldLink RX2 7 "LanternWeirs$Row" "cells" "[I", Cond.methodLink RX3 50 yX2_get, Cond.methodLink RX3 135 yX1_moveTo, Cond.instanceMethod yX1_moveTo, Cond.selects RX1 yX1_moveTo yX1_moveTo, Cond.code yX1_moveTo cX1_moveTo 4 none, Cond.fieldLink RX1 23 "LanternWeirs$Fleet" "lanes" "LLanternWeirs$Row;", Cond.fieldLink RX1 26 "LanternWeirs$Fleet" "places" "LLanternWeirs$Row;", Cond.methodLink RX1 69 yX1_crowdBy, Cond.instanceMethod yX1_crowdBy, Cond.selects RX1 yX1_crowdBy yX1_crowdBy]
def wsL_push_r3 : List Cond := [Cond.code yX1_crowdBy cX1_crowdBy 4 none, Cond.fieldLink RX1 16 "LanternWeirs$Fleet" "frames" "LLanternWeirs$Row;", Cond.fieldLink RX1 44 "LanternWeirs$Fleet" "crowd" "LLanternWeirs$Row;", Cond.methodLink RX1 92 yX1_cell, Cond.static yX1_cell, Cond.code yX1_cell cX1_cell 3 (some .int), Cond.methodLink RX1 61 yX2_put, Cond.instanceMethod yX2_put, Cond.selects RX2 yX2_put yX2_put, Cond.code yX2_put cX2_put 3 none]
def wsL_push : List Cond := .codeWith yL_push cL_push 5 (some .int) [(0, 10, 13, 13), (0, 10, 17, 20)] :: ((wsL_push_r1 ++ (wsL_push_r2 ++ wsL_push_r3)) ++ wsX30 ++ wsX10 ++ wsX20 ++ (vx_atS RX3 34 "java/lang/IndexOutOfBoundsException" ["java/lang/RuntimeException", "java/lang/Exception"]).filter goodWord ++ (vx_atS RX3 75 "java/lang/IllegalStateException" ["java/lang/RuntimeException", "java/lang/Exception"]).filter goodWord)
def wsL_light_r1 : List Cond := [Cond.classLink RL 13 "java/lang/IndexOutOfBoundsException", Cond.classLink RL 20 "java/lang/IllegalStateException", Cond.methodLink RL 36 yX3_light, Cond.instanceMethod yX3_light, Cond.selects RX3 yX3_light yX3_light, Cond.initialized RX3, Cond.code yX3_light cX3_light 2 (some .int), Cond.classLink RX3 30 "java/lang/IndexOutOfBoundsException", Cond.initialized "java/lang/IndexOutOfBoundsException", Cond.classLink RX3 71 "java/lang/IllegalStateException", Cond.initialized "java/lang/IllegalStateException", Cond.fieldLink RX3 19 "LanternWeirs" "fleet" "LLanternWeirs$Fleet;", Cond.fieldLink RX3 146 "LanternWeirs$Fleet" "burning" "LLanternWeirs$Row;", Cond.fieldLink RX3 149 "LanternWeirs$Fleet" "waxes" "LLanternWeirs$Row;", Cond.methodLink RX3 119 yX1_has, Cond.instanceMethod yX1_has, Cond.selects RX1 yX1_has yX1_has, Cond.initialized RX1, Cond.code yX1_has cX1_has 2 (some .boolean), Cond.fieldLink RX1 54 "LanternWeirs$Fleet" "size" "I", Cond.static yX3_isWithin, Cond.code yX3_isWithin cX3_isWithin 3 (some .boolean), Cond.methodLink RX3 124 yX1_isAfloat, Cond.instanceMethod yX1_isAfloat]
def wsL_light_r2 : List Cond := [Cond.selects RX1 yX1_isAfloat yX1_isAfloat, Cond.code yX1_isAfloat cX1_isAfloat 2 (some .boolean), Cond.fieldLink RX1 38 "LanternWeirs$Fleet" "states" "LLanternWeirs$Row;", Cond.methodLink RX1 76 yX1_has, Cond.methodLink RX1 80 yX2_get, Cond.instanceMethod yX2_get, Cond.selects RX2 yX2_get yX2_get, Cond.initialized RX2, Cond.code yX2_get cX2_get 2 (some .int), Cond.fieldLink RX2 7 "LanternWeirs$Row" "cells" "[I", Cond.methodLink RX3 141 yX1_canBeLit, Cond.instanceMethod yX1_canBeLit, Cond.selects RX1 yX1_canBeLit yX1_canBeLit, Cond.code yX1_canBeLit cX1_canBeLit 2 (some .boolean), Cond.fieldLink RX1 29 "LanternWeirs$Fleet" "waxes" "LLanternWeirs$Row;", Cond.methodLink RX1 86 yX1_isBurning, Cond.instanceMethod yX1_isBurning, Cond.selects RX1 yX1_isBurning yX1_isBurning, Cond.code yX1_isBurning cX1_isBurning 2 (some .boolean), Cond.fieldLink RX1 35 "LanternWeirs$Fleet" "burning" "LLanternWeirs$Row;", Cond.methodLink RX1 89 yX1_isSoaked, Cond.instanceMethod yX1_isSoaked, Cond.selects RX1 yX1_isSoaked yX1_isSoaked, Cond.code yX1_isSoaked cX1_isSoaked 2 (some .boolean)]
def wsL_light_r3 : List Cond := [Cond.fieldLink RX1 32 "LanternWeirs$Fleet" "wets" "LLanternWeirs$Row;", Cond.fieldLink RX1 16 "LanternWeirs$Fleet" "frames" "LLanternWeirs$Row;", Cond.static yX3_sprayTakenBy, Cond.code yX3_sprayTakenBy cX3_sprayTakenBy 1 (some .int), Cond.methodLink RX3 56 yX2_put, Cond.instanceMethod yX2_put, Cond.selects RX2 yX2_put yX2_put, Cond.code yX2_put cX2_put 3 none, Cond.methodLink RX3 50 yX2_get]
def wsL_light : List Cond := .codeWith yL_light cL_light 4 (some .int) [(0, 9, 12, 13), (0, 9, 15, 20)] :: ((wsL_light_r1 ++ (wsL_light_r2 ++ wsL_light_r3)) ++ wsX30 ++ wsX10 ++ wsX20 ++ (vx_atS RX3 34 "java/lang/IndexOutOfBoundsException" ["java/lang/RuntimeException", "java/lang/Exception"]).filter goodWord ++ (vx_atS RX3 75 "java/lang/IllegalStateException" ["java/lang/RuntimeException", "java/lang/Exception"]).filter goodWord)
def wsL_blow_r1 : List Cond := [Cond.classLink RL 13 "java/lang/IndexOutOfBoundsException", Cond.classLink RL 20 "java/lang/IllegalStateException", Cond.methodLink RL 40 yX3_blow, Cond.instanceMethod yX3_blow, Cond.selects RX3 yX3_blow yX3_blow, Cond.initialized RX3, Cond.code yX3_blow cX3_blow 2 (some .int), Cond.classLink RX3 30 "java/lang/IndexOutOfBoundsException", Cond.initialized "java/lang/IndexOutOfBoundsException", Cond.classLink RX3 71 "java/lang/IllegalStateException", Cond.initialized "java/lang/IllegalStateException", Cond.fieldLink RX3 19 "LanternWeirs" "fleet" "LLanternWeirs$Fleet;", Cond.fieldLink RX3 146 "LanternWeirs$Fleet" "burning" "LLanternWeirs$Row;", Cond.fieldLink RX3 149 "LanternWeirs$Fleet" "waxes" "LLanternWeirs$Row;", Cond.methodLink RX3 119 yX1_has, Cond.instanceMethod yX1_has, Cond.selects RX1 yX1_has yX1_has, Cond.initialized RX1, Cond.code yX1_has cX1_has 2 (some .boolean), Cond.fieldLink RX1 54 "LanternWeirs$Fleet" "size" "I", Cond.static yX3_isWithin, Cond.code yX3_isWithin cX3_isWithin 3 (some .boolean), Cond.methodLink RX3 124 yX1_isAfloat, Cond.instanceMethod yX1_isAfloat]
def wsL_blow_r2 : List Cond := [Cond.selects RX1 yX1_isAfloat yX1_isAfloat, Cond.code yX1_isAfloat cX1_isAfloat 2 (some .boolean), Cond.fieldLink RX1 38 "LanternWeirs$Fleet" "states" "LLanternWeirs$Row;", Cond.methodLink RX1 76 yX1_has, Cond.methodLink RX1 80 yX2_get, Cond.instanceMethod yX2_get, Cond.selects RX2 yX2_get yX2_get, Cond.initialized RX2, Cond.code yX2_get cX2_get 2 (some .int), Cond.fieldLink RX2 7 "LanternWeirs$Row" "cells" "[I", Cond.methodLink RX3 152 yX1_isBurning, Cond.instanceMethod yX1_isBurning, Cond.selects RX1 yX1_isBurning yX1_isBurning, Cond.code yX1_isBurning cX1_isBurning 2 (some .boolean), Cond.fieldLink RX1 35 "LanternWeirs$Fleet" "burning" "LLanternWeirs$Row;", Cond.methodLink RX3 56 yX2_put, Cond.instanceMethod yX2_put, Cond.selects RX2 yX2_put yX2_put, Cond.code yX2_put cX2_put 3 none, Cond.methodLink RX3 50 yX2_get]
def wsL_blow : List Cond := .codeWith yL_blow cL_blow 4 (some .int) [(0, 9, 12, 13), (0, 9, 15, 20)] :: ((wsL_blow_r1 ++ wsL_blow_r2) ++ wsX30 ++ wsX10 ++ wsX20 ++ (vx_atS RX3 34 "java/lang/IndexOutOfBoundsException" ["java/lang/RuntimeException", "java/lang/Exception"]).filter goodWord ++ (vx_atS RX3 75 "java/lang/IllegalStateException" ["java/lang/RuntimeException", "java/lang/Exception"]).filter goodWord)
def wsL_told_r1 : List Cond := [Cond.classLink RL 13 "java/lang/IndexOutOfBoundsException", Cond.methodLink RL 43 yX3_told, Cond.instanceMethod yX3_told, Cond.selects RX3 yX3_told yX3_told, Cond.initialized RX3, Cond.code yX3_told cX3_told 3 (some .int), Cond.classLink RX3 30 "java/lang/IndexOutOfBoundsException", Cond.initialized "java/lang/IndexOutOfBoundsException", Cond.fieldLink RX3 19 "LanternWeirs" "fleet" "LLanternWeirs$Fleet;", Cond.methodLink RX3 119 yX1_has, Cond.instanceMethod yX1_has, Cond.selects RX1 yX1_has yX1_has, Cond.initialized RX1, Cond.code yX1_has cX1_has 2 (some .boolean), Cond.fieldLink RX1 54 "LanternWeirs$Fleet" "size" "I", Cond.static yX3_isWithin, Cond.code yX3_isWithin cX3_isWithin 3 (some .boolean), Cond.methodLink RX3 37 yX3_isWithin, Cond.methodLink RX3 159 yX1_fact, Cond.instanceMethod yX1_fact, Cond.selects RX1 yX1_fact yX1_fact, Cond.code yX1_fact cX1_fact 3 (some .int), Cond.fieldLink RX1 16 "LanternWeirs$Fleet" "frames" "LLanternWeirs$Row;", Cond.fieldLink RX1 20 "LanternWeirs$Fleet" "wishes" "LLanternWeirs$Row;"]
def wsL_told_r2 : List Cond := [Cond.fieldLink RX1 23 "LanternWeirs$Fleet" "lanes" "LLanternWeirs$Row;", Cond.fieldLink RX1 26 "LanternWeirs$Fleet" "places" "LLanternWeirs$Row;", Cond.fieldLink RX1 29 "LanternWeirs$Fleet" "waxes" "LLanternWeirs$Row;", Cond.fieldLink RX1 32 "LanternWeirs$Fleet" "wets" "LLanternWeirs$Row;", Cond.fieldLink RX1 35 "LanternWeirs$Fleet" "burning" "LLanternWeirs$Row;", Cond.fieldLink RX1 38 "LanternWeirs$Fleet" "states" "LLanternWeirs$Row;", Cond.fieldLink RX1 41 "LanternWeirs$Fleet" "ends" "LLanternWeirs$Row;", Cond.methodLink RX1 80 yX2_get, Cond.instanceMethod yX2_get, Cond.selects RX2 yX2_get yX2_get, Cond.initialized RX2, Cond.code yX2_get cX2_get 2 (some .int), Cond.fieldLink RX2 7 "LanternWeirs$Row" "cells" "[I"]
def wsL_told : List Cond := .codeWith yL_told cL_told 5 (some .int) [(0, 10, 13, 13)] :: ((wsL_told_r1 ++ wsL_told_r2) ++ wsX30 ++ wsX10 ++ wsX20 ++ (vx_atS RX3 34 "java/lang/IndexOutOfBoundsException" ["java/lang/RuntimeException", "java/lang/Exception"]).filter goodWord)
def wsL_next_r1 : List Cond := [Cond.classLink RL 13 "java/lang/IndexOutOfBoundsException", Cond.methodLink RL 46 yX3_next, Cond.instanceMethod yX3_next, Cond.selects RX3 yX3_next yX3_next, Cond.initialized RX3, Cond.code yX3_next cX3_next 2 (some .int), Cond.classLink RX3 30 "java/lang/IndexOutOfBoundsException", Cond.initialized "java/lang/IndexOutOfBoundsException", Cond.fieldLink RX3 19 "LanternWeirs" "fleet" "LLanternWeirs$Fleet;", Cond.methodLink RX3 119 yX1_has, Cond.instanceMethod yX1_has, Cond.selects RX1 yX1_has yX1_has, Cond.initialized RX1, Cond.code yX1_has cX1_has 2 (some .boolean), Cond.fieldLink RX1 54 "LanternWeirs$Fleet" "size" "I", Cond.static yX3_isWithin, Cond.code yX3_isWithin cX3_isWithin 3 (some .boolean), Cond.methodLink RX3 162 yX3_nextWeir, Cond.instanceMethod yX3_nextWeir, Cond.selects RX3 yX3_nextWeir yX3_nextWeir, Cond.code yX3_nextWeir cX3_nextWeir 3 (some .int), Cond.fieldLink RX3 132 "LanternWeirs$Fleet" "places" "LLanternWeirs$Row;", Cond.fieldLink RX3 10 "LanternWeirs" "bed" "LLanternWeirs$Bed;", Cond.fieldLink RX3 68 "LanternWeirs$Bed" "sprays" "LLanternWeirs$Row;"]
def wsL_next_r2 : List Cond := [Cond.methodLink RX3 124 yX1_isAfloat, Cond.instanceMethod yX1_isAfloat, Cond.selects RX1 yX1_isAfloat yX1_isAfloat, Cond.code yX1_isAfloat cX1_isAfloat 2 (some .boolean), Cond.fieldLink RX1 38 "LanternWeirs$Fleet" "states" "LLanternWeirs$Row;", Cond.methodLink RX1 76 yX1_has, Cond.methodLink RX1 80 yX2_get, Cond.instanceMethod yX2_get, Cond.selects RX2 yX2_get yX2_get, Cond.initialized RX2, Cond.code yX2_get cX2_get 2 (some .int), Cond.fieldLink RX2 7 "LanternWeirs$Row" "cells" "[I", Cond.methodLink RX3 50 yX2_get]
def wsL_next : List Cond := .codeWith yL_next cL_next 4 (some .int) [(0, 9, 12, 13)] :: ((wsL_next_r1 ++ wsL_next_r2) ++ wsX30 ++ wsX10 ++ wsX00 ++ wsX20 ++ (vx_atS RX3 34 "java/lang/IndexOutOfBoundsException" ["java/lang/RuntimeException", "java/lang/Exception"]).filter goodWord)
def wsL_count_r1 : List Cond := [Cond.classLink RL 13 "java/lang/IndexOutOfBoundsException", Cond.methodLink RL 49 yX3_count, Cond.instanceMethod yX3_count, Cond.selects RX3 yX3_count yX3_count, Cond.initialized RX3, Cond.code yX3_count cX3_count 2 (some .int), Cond.classLink RX3 30 "java/lang/IndexOutOfBoundsException", Cond.initialized "java/lang/IndexOutOfBoundsException", Cond.methodLink RX3 37 yX3_isWithin, Cond.static yX3_isWithin, Cond.code yX3_isWithin cX3_isWithin 3 (some .boolean), Cond.methodLink RX3 167 yX3_counted, Cond.instanceMethod yX3_counted, Cond.selects RX3 yX3_counted yX3_counted, Cond.code yX3_counted cX3_counted 2 (some .int), Cond.fieldLink RX3 19 "LanternWeirs" "fleet" "LLanternWeirs$Fleet;", Cond.fieldLink RX3 200 "LanternWeirs$Fleet" "minute" "I", Cond.fieldLink RX3 110 "LanternWeirs$Fleet" "size" "I", Cond.fieldLink RX3 10 "LanternWeirs" "bed" "LLanternWeirs$Bed;", Cond.fieldLink RX3 64 "LanternWeirs$Bed" "weirs" "I", Cond.fieldLink RX3 82 "LanternWeirs$Bed" "netCount" "I", Cond.methodLink RX3 172 yX1_tally, Cond.instanceMethod yX1_tally, Cond.selects RX1 yX1_tally yX1_tally]
def wsL_count_r2 : List Cond := [Cond.initialized RX1, Cond.code yX1_tally cX1_tally 4 (some .int), Cond.fieldLink RX1 54 "LanternWeirs$Fleet" "size" "I", Cond.methodLink RX1 96 yX1_share, Cond.instanceMethod yX1_share, Cond.selects RX1 yX1_share yX1_share, Cond.code yX1_share cX1_share 5 (some .int), Cond.fieldLink RX1 38 "LanternWeirs$Fleet" "states" "LLanternWeirs$Row;", Cond.fieldLink RX1 35 "LanternWeirs$Fleet" "burning" "LLanternWeirs$Row;", Cond.fieldLink RX1 20 "LanternWeirs$Fleet" "wishes" "LLanternWeirs$Row;", Cond.methodLink RX1 80 yX2_get, Cond.instanceMethod yX2_get, Cond.selects RX2 yX2_get yX2_get, Cond.initialized RX2, Cond.code yX2_get cX2_get 2 (some .int), Cond.fieldLink RX2 7 "LanternWeirs$Row" "cells" "[I"]
def wsL_count : List Cond := .codeWith yL_count cL_count 4 (some .int) [(0, 9, 12, 13)] :: ((wsL_count_r1 ++ wsL_count_r2) ++ wsX30 ++ wsX10 ++ wsX00 ++ wsX20 ++ (vx_atS RX3 34 "java/lang/IndexOutOfBoundsException" ["java/lang/RuntimeException", "java/lang/Exception"]).filter goodWord)
def wsL_pass_r1 : List Cond := [Cond.classLink RL 15 "java/lang/IllegalArgumentException", Cond.methodLink RL 52 yX3_pass, Cond.instanceMethod yX3_pass, Cond.selects RX3 yX3_pass yX3_pass, Cond.initialized RX3, Cond.code yX3_pass cX3_pass 3 (some .int), Cond.classLink RX3 41 "java/lang/IllegalArgumentException", Cond.initialized "java/lang/IllegalArgumentException", Cond.fieldLink RX3 19 "LanternWeirs" "fleet" "LLanternWeirs$Fleet;", Cond.fieldLink RX3 10 "LanternWeirs" "bed" "LLanternWeirs$Bed;", Cond.methodLink RX3 37 yX3_isWithin, Cond.static yX3_isWithin, Cond.code yX3_isWithin cX3_isWithin 3 (some .boolean), Cond.methodLink RX3 172 yX1_tally, Cond.instanceMethod yX1_tally, Cond.selects RX1 yX1_tally yX1_tally, Cond.initialized RX1, Cond.code yX1_tally cX1_tally 4 (some .int), Cond.fieldLink RX1 54 "LanternWeirs$Fleet" "size" "I", Cond.methodLink RX1 96 yX1_share, Cond.instanceMethod yX1_share, Cond.selects RX1 yX1_share yX1_share, Cond.code yX1_share cX1_share 5 (some .int), Cond.fieldLink RX1 38 "LanternWeirs$Fleet" "states" "LLanternWeirs$Row;"]
def wsL_pass_r2 : List Cond := [Cond.fieldLink RX1 35 "LanternWeirs$Fleet" "burning" "LLanternWeirs$Row;", Cond.fieldLink RX1 20 "LanternWeirs$Fleet" "wishes" "LLanternWeirs$Row;", Cond.methodLink RX1 80 yX2_get, Cond.instanceMethod yX2_get, Cond.selects RX2 yX2_get yX2_get, Cond.initialized RX2, Cond.code yX2_get cX2_get 2 (some .int), Cond.fieldLink RX2 7 "LanternWeirs$Row" "cells" "[I", Cond.methodLink RX3 175 yX1_passMinutes, Cond.instanceMethod yX1_passMinutes, Cond.selects RX1 yX1_passMinutes yX1_passMinutes, Cond.code yX1_passMinutes cX1_passMinutes 6 none, Cond.fieldLink RX1 47 "LanternWeirs$Fleet" "queue" "LLanternWeirs$Row;", Cond.fieldLink RX1 58 "LanternWeirs$Fleet" "minute" "I", Cond.methodLink RX1 100 yX1_lineUp, Cond.instanceMethod yX1_lineUp, Cond.selects RX1 yX1_lineUp yX1_lineUp, Cond.code yX1_lineUp cX1_lineUp 6 (some .int), Cond.fieldLink RX1 26 "LanternWeirs$Fleet" "places" "LLanternWeirs$Row;", Cond.fieldLink RX1 23 "LanternWeirs$Fleet" "lanes" "LLanternWeirs$Row;", Cond.methodLink RX1 111 yX1_isAfloat, Cond.instanceMethod yX1_isAfloat, Cond.selects RX1 yX1_isAfloat yX1_isAfloat, Cond.code yX1_isAfloat cX1_isAfloat 2 (some .boolean)]
def wsL_pass_r3 : List Cond := [Cond.methodLink RX1 76 yX1_has, Cond.instanceMethod yX1_has, Cond.selects RX1 yX1_has yX1_has, Cond.code yX1_has cX1_has 2 (some .boolean), Cond.methodLink RX1 61 yX2_put, Cond.instanceMethod yX2_put, Cond.selects RX2 yX2_put yX2_put, Cond.code yX2_put cX2_put 3 none, Cond.methodLink RX1 104 yX1_drift, Cond.instanceMethod yX1_drift, Cond.selects RX1 yX1_drift yX1_drift, Cond.code yX1_drift cX1_drift 7 none, Cond.fieldLink RX1 114 "LanternWeirs$Bed" "currents" "LLanternWeirs$Row;", Cond.fieldLink RX1 129 "LanternWeirs$Bed" "sprays" "LLanternWeirs$Row;", Cond.methodLink RX1 119 yX1_catchesAhead, Cond.instanceMethod yX1_catchesAhead, Cond.selects RX1 yX1_catchesAhead yX1_catchesAhead, Cond.code yX1_catchesAhead cX1_catchesAhead 4 (some .boolean), Cond.fieldLink RX1 16 "LanternWeirs$Fleet" "frames" "LLanternWeirs$Row;", Cond.fieldLink RX1 44 "LanternWeirs$Fleet" "crowd" "LLanternWeirs$Row;", Cond.methodLink RX1 92 yX1_cell, Cond.static yX1_cell, Cond.code yX1_cell cX1_cell 3 (some .int), Cond.methodLink RX1 122 yX1_moveTo]
def wsL_pass_r4 : List Cond := [Cond.instanceMethod yX1_moveTo, Cond.selects RX1 yX1_moveTo yX1_moveTo, Cond.code yX1_moveTo cX1_moveTo 4 none, Cond.methodLink RX1 69 yX1_crowdBy, Cond.instanceMethod yX1_crowdBy, Cond.selects RX1 yX1_crowdBy yX1_crowdBy, Cond.code yX1_crowdBy cX1_crowdBy 4 none, Cond.methodLink RX1 126 yX1_leave, Cond.instanceMethod yX1_leave, Cond.selects RX1 yX1_leave yX1_leave, Cond.code yX1_leave cX1_leave 3 none, Cond.fieldLink RX1 41 "LanternWeirs$Fleet" "ends" "LLanternWeirs$Row;", Cond.methodLink RX1 132 yX1_meetWeir, Cond.instanceMethod yX1_meetWeir, Cond.selects RX1 yX1_meetWeir yX1_meetWeir, Cond.code yX1_meetWeir cX1_meetWeir 6 none, Cond.fieldLink RX1 32 "LanternWeirs$Fleet" "wets" "LLanternWeirs$Row;", Cond.methodLink RX1 89 yX1_isSoaked, Cond.instanceMethod yX1_isSoaked, Cond.selects RX1 yX1_isSoaked yX1_isSoaked, Cond.code yX1_isSoaked cX1_isSoaked 2 (some .boolean), Cond.static yX3_sprayTakenBy, Cond.code yX3_sprayTakenBy cX3_sprayTakenBy 1 (some .int), Cond.methodLink RX1 135 yX0_hasNet]
def wsL_pass_r5 : List Cond := [Cond.instanceMethod yX0_hasNet, Cond.selects RX0 yX0_hasNet yX0_hasNet, Cond.initialized RX0, Cond.code yX0_hasNet cX0_hasNet 3 (some .boolean), Cond.fieldLink RX0 23 "LanternWeirs$Bed" "nets" "LLanternWeirs$Row;", Cond.methodLink RX0 37 yX2_get, Cond.methodLink RX1 108 yX1_useWax, Cond.instanceMethod yX1_useWax, Cond.selects RX1 yX1_useWax yX1_useWax, Cond.code yX1_useWax cX1_useWax 3 none, Cond.fieldLink RX1 29 "LanternWeirs$Fleet" "waxes" "LLanternWeirs$Row;", Cond.methodLink RX1 86 yX1_isBurning, Cond.instanceMethod yX1_isBurning, Cond.selects RX1 yX1_isBurning yX1_isBurning, Cond.code yX1_isBurning cX1_isBurning 2 (some .boolean)]
def wsL_pass : List Cond := .codeWith yL_pass cL_pass 4 (some .int) [(0, 9, 12, 15)] :: ((wsL_pass_r1 ++ (wsL_pass_r2 ++ (wsL_pass_r3 ++ (wsL_pass_r4 ++ wsL_pass_r5)))) ++ wsX30 ++ wsX10 ++ wsX20 ++ wsX00 ++ (vx_atS RX3 45 "java/lang/IllegalArgumentException" ["java/lang/RuntimeException", "java/lang/Exception"]).filter goodWord)
def wsL_burns_r1 : List Cond := [Cond.classLink RL 13 "java/lang/IndexOutOfBoundsException", Cond.methodLink RL 55 yX3_burns, Cond.instanceMethod yX3_burns, Cond.selects RX3 yX3_burns yX3_burns, Cond.initialized RX3, Cond.code yX3_burns cX3_burns 3 (some .int), Cond.classLink RX3 30 "java/lang/IndexOutOfBoundsException", Cond.initialized "java/lang/IndexOutOfBoundsException", Cond.fieldLink RX3 19 "LanternWeirs" "fleet" "LLanternWeirs$Fleet;", Cond.fieldLink RX3 23 "LanternWeirs" "dream" "LLanternWeirs$Fleet;", Cond.fieldLink RX3 10 "LanternWeirs" "bed" "LLanternWeirs$Bed;", Cond.methodLink RX3 119 yX1_has, Cond.instanceMethod yX1_has, Cond.selects RX1 yX1_has yX1_has, Cond.initialized RX1, Cond.code yX1_has cX1_has 2 (some .boolean), Cond.fieldLink RX1 54 "LanternWeirs$Fleet" "size" "I", Cond.static yX3_isWithin, Cond.code yX3_isWithin cX3_isWithin 3 (some .boolean), Cond.methodLink RX3 179 yX1_copy, Cond.instanceMethod yX1_copy, Cond.selects RX1 yX1_copy yX1_copy, Cond.code yX1_copy cX1_copy 2 none, Cond.fieldLink RX1 16 "LanternWeirs$Fleet" "frames" "LLanternWeirs$Row;"]
def wsL_burns_r2 : List Cond := [Cond.fieldLink RX1 20 "LanternWeirs$Fleet" "wishes" "LLanternWeirs$Row;", Cond.fieldLink RX1 23 "LanternWeirs$Fleet" "lanes" "LLanternWeirs$Row;", Cond.fieldLink RX1 26 "LanternWeirs$Fleet" "places" "LLanternWeirs$Row;", Cond.fieldLink RX1 29 "LanternWeirs$Fleet" "waxes" "LLanternWeirs$Row;", Cond.fieldLink RX1 32 "LanternWeirs$Fleet" "wets" "LLanternWeirs$Row;", Cond.fieldLink RX1 35 "LanternWeirs$Fleet" "burning" "LLanternWeirs$Row;", Cond.fieldLink RX1 38 "LanternWeirs$Fleet" "states" "LLanternWeirs$Row;", Cond.fieldLink RX1 41 "LanternWeirs$Fleet" "ends" "LLanternWeirs$Row;", Cond.fieldLink RX1 44 "LanternWeirs$Fleet" "crowd" "LLanternWeirs$Row;", Cond.fieldLink RX1 58 "LanternWeirs$Fleet" "minute" "I", Cond.methodLink RX1 50 yX2_copy, Cond.instanceMethod yX2_copy, Cond.selects RX2 yX2_copy yX2_copy, Cond.initialized RX2, Cond.code yX2_copy cX2_copy 3 none, Cond.fieldLink RX2 7 "LanternWeirs$Row" "cells" "[I", Cond.methodLink RX2 13 yX2_get, Cond.instanceMethod yX2_get, Cond.selects RX2 yX2_get yX2_get, Cond.code yX2_get cX2_get 2 (some .int), Cond.methodLink RX3 152 yX1_isBurning, Cond.instanceMethod yX1_isBurning, Cond.selects RX1 yX1_isBurning yX1_isBurning, Cond.code yX1_isBurning cX1_isBurning 2 (some .boolean)]
def wsL_burns_r3 : List Cond := [Cond.methodLink RX1 76 yX1_has, Cond.methodLink RX1 80 yX2_get, Cond.methodLink RX3 175 yX1_passMinutes, Cond.instanceMethod yX1_passMinutes, Cond.selects RX1 yX1_passMinutes yX1_passMinutes, Cond.code yX1_passMinutes cX1_passMinutes 6 none, Cond.fieldLink RX1 47 "LanternWeirs$Fleet" "queue" "LLanternWeirs$Row;", Cond.methodLink RX1 100 yX1_lineUp, Cond.instanceMethod yX1_lineUp, Cond.selects RX1 yX1_lineUp yX1_lineUp, Cond.code yX1_lineUp cX1_lineUp 6 (some .int), Cond.methodLink RX1 111 yX1_isAfloat, Cond.instanceMethod yX1_isAfloat, Cond.selects RX1 yX1_isAfloat yX1_isAfloat, Cond.code yX1_isAfloat cX1_isAfloat 2 (some .boolean), Cond.methodLink RX1 61 yX2_put, Cond.instanceMethod yX2_put, Cond.selects RX2 yX2_put yX2_put, Cond.code yX2_put cX2_put 3 none, Cond.methodLink RX1 104 yX1_drift, Cond.instanceMethod yX1_drift, Cond.selects RX1 yX1_drift yX1_drift, Cond.code yX1_drift cX1_drift 7 none, Cond.fieldLink RX1 114 "LanternWeirs$Bed" "currents" "LLanternWeirs$Row;"]
def wsL_burns_r4 : List Cond := [Cond.fieldLink RX1 129 "LanternWeirs$Bed" "sprays" "LLanternWeirs$Row;", Cond.methodLink RX1 119 yX1_catchesAhead, Cond.instanceMethod yX1_catchesAhead, Cond.selects RX1 yX1_catchesAhead yX1_catchesAhead, Cond.code yX1_catchesAhead cX1_catchesAhead 4 (some .boolean), Cond.methodLink RX1 92 yX1_cell, Cond.static yX1_cell, Cond.code yX1_cell cX1_cell 3 (some .int), Cond.methodLink RX1 122 yX1_moveTo, Cond.instanceMethod yX1_moveTo, Cond.selects RX1 yX1_moveTo yX1_moveTo, Cond.code yX1_moveTo cX1_moveTo 4 none, Cond.methodLink RX1 69 yX1_crowdBy, Cond.instanceMethod yX1_crowdBy, Cond.selects RX1 yX1_crowdBy yX1_crowdBy, Cond.code yX1_crowdBy cX1_crowdBy 4 none, Cond.methodLink RX1 126 yX1_leave, Cond.instanceMethod yX1_leave, Cond.selects RX1 yX1_leave yX1_leave, Cond.code yX1_leave cX1_leave 3 none, Cond.methodLink RX1 132 yX1_meetWeir, Cond.instanceMethod yX1_meetWeir, Cond.selects RX1 yX1_meetWeir yX1_meetWeir, Cond.code yX1_meetWeir cX1_meetWeir 6 none]
def wsL_burns_r5 : List Cond := [Cond.methodLink RX1 89 yX1_isSoaked, Cond.instanceMethod yX1_isSoaked, Cond.selects RX1 yX1_isSoaked yX1_isSoaked, Cond.code yX1_isSoaked cX1_isSoaked 2 (some .boolean), Cond.static yX3_sprayTakenBy, Cond.code yX3_sprayTakenBy cX3_sprayTakenBy 1 (some .int), Cond.methodLink RX1 135 yX0_hasNet, Cond.instanceMethod yX0_hasNet, Cond.selects RX0 yX0_hasNet yX0_hasNet, Cond.initialized RX0, Cond.code yX0_hasNet cX0_hasNet 3 (some .boolean), Cond.fieldLink RX0 23 "LanternWeirs$Bed" "nets" "LLanternWeirs$Row;", Cond.methodLink RX0 37 yX2_get, Cond.methodLink RX1 108 yX1_useWax, Cond.instanceMethod yX1_useWax, Cond.selects RX1 yX1_useWax yX1_useWax, Cond.code yX1_useWax cX1_useWax 3 none, Cond.methodLink RX1 86 yX1_isBurning]
def wsL_burns : List Cond := .codeWith yL_burns cL_burns 4 (some .int) [(0, 9, 12, 13)] :: ((wsL_burns_r1 ++ (wsL_burns_r2 ++ (wsL_burns_r3 ++ (wsL_burns_r4 ++ wsL_burns_r5)))) ++ wsX30 ++ wsX10 ++ wsX20 ++ wsX00 ++ (vx_atS RX3 34 "java/lang/IndexOutOfBoundsException" ["java/lang/RuntimeException", "java/lang/Exception"]).filter goodWord)
def wsL_foresee_r1 : List Cond := [Cond.classLink RL 15 "java/lang/IllegalArgumentException", Cond.classLink RL 13 "java/lang/IndexOutOfBoundsException", Cond.methodLink RL 58 yX3_foresee, Cond.instanceMethod yX3_foresee, Cond.selects RX3 yX3_foresee yX3_foresee, Cond.initialized RX3, Cond.code yX3_foresee cX3_foresee 3 (some .int), Cond.classLink RX3 41 "java/lang/IllegalArgumentException", Cond.initialized "java/lang/IllegalArgumentException", Cond.classLink RX3 30 "java/lang/IndexOutOfBoundsException", Cond.initialized "java/lang/IndexOutOfBoundsException", Cond.fieldLink RX3 23 "LanternWeirs" "dream" "LLanternWeirs$Fleet;", Cond.fieldLink RX3 19 "LanternWeirs" "fleet" "LLanternWeirs$Fleet;", Cond.fieldLink RX3 10 "LanternWeirs" "bed" "LLanternWeirs$Bed;", Cond.methodLink RX3 37 yX3_isWithin, Cond.static yX3_isWithin, Cond.code yX3_isWithin cX3_isWithin 3 (some .boolean), Cond.methodLink RX3 179 yX1_copy, Cond.instanceMethod yX1_copy, Cond.selects RX1 yX1_copy yX1_copy, Cond.initialized RX1, Cond.code yX1_copy cX1_copy 2 none, Cond.fieldLink RX1 16 "LanternWeirs$Fleet" "frames" "LLanternWeirs$Row;", Cond.fieldLink RX1 20 "LanternWeirs$Fleet" "wishes" "LLanternWeirs$Row;"]
def wsL_foresee_r2 : List Cond := [Cond.fieldLink RX1 23 "LanternWeirs$Fleet" "lanes" "LLanternWeirs$Row;", Cond.fieldLink RX1 26 "LanternWeirs$Fleet" "places" "LLanternWeirs$Row;", Cond.fieldLink RX1 29 "LanternWeirs$Fleet" "waxes" "LLanternWeirs$Row;", Cond.fieldLink RX1 32 "LanternWeirs$Fleet" "wets" "LLanternWeirs$Row;", Cond.fieldLink RX1 35 "LanternWeirs$Fleet" "burning" "LLanternWeirs$Row;", Cond.fieldLink RX1 38 "LanternWeirs$Fleet" "states" "LLanternWeirs$Row;", Cond.fieldLink RX1 41 "LanternWeirs$Fleet" "ends" "LLanternWeirs$Row;", Cond.fieldLink RX1 44 "LanternWeirs$Fleet" "crowd" "LLanternWeirs$Row;", Cond.fieldLink RX1 54 "LanternWeirs$Fleet" "size" "I", Cond.fieldLink RX1 58 "LanternWeirs$Fleet" "minute" "I", Cond.methodLink RX1 50 yX2_copy, Cond.instanceMethod yX2_copy, Cond.selects RX2 yX2_copy yX2_copy, Cond.initialized RX2, Cond.code yX2_copy cX2_copy 3 none, Cond.fieldLink RX2 7 "LanternWeirs$Row" "cells" "[I", Cond.methodLink RX2 13 yX2_get, Cond.instanceMethod yX2_get, Cond.selects RX2 yX2_get yX2_get, Cond.code yX2_get cX2_get 2 (some .int), Cond.methodLink RX3 175 yX1_passMinutes, Cond.instanceMethod yX1_passMinutes, Cond.selects RX1 yX1_passMinutes yX1_passMinutes, Cond.code yX1_passMinutes cX1_passMinutes 6 none]
def wsL_foresee_r3 : List Cond := [Cond.fieldLink RX1 47 "LanternWeirs$Fleet" "queue" "LLanternWeirs$Row;", Cond.methodLink RX1 100 yX1_lineUp, Cond.instanceMethod yX1_lineUp, Cond.selects RX1 yX1_lineUp yX1_lineUp, Cond.code yX1_lineUp cX1_lineUp 6 (some .int), Cond.methodLink RX1 111 yX1_isAfloat, Cond.instanceMethod yX1_isAfloat, Cond.selects RX1 yX1_isAfloat yX1_isAfloat, Cond.code yX1_isAfloat cX1_isAfloat 2 (some .boolean), Cond.methodLink RX1 76 yX1_has, Cond.instanceMethod yX1_has, Cond.selects RX1 yX1_has yX1_has, Cond.code yX1_has cX1_has 2 (some .boolean), Cond.methodLink RX1 80 yX2_get, Cond.methodLink RX1 61 yX2_put, Cond.instanceMethod yX2_put, Cond.selects RX2 yX2_put yX2_put, Cond.code yX2_put cX2_put 3 none, Cond.methodLink RX1 104 yX1_drift, Cond.instanceMethod yX1_drift, Cond.selects RX1 yX1_drift yX1_drift, Cond.code yX1_drift cX1_drift 7 none, Cond.fieldLink RX1 114 "LanternWeirs$Bed" "currents" "LLanternWeirs$Row;", Cond.fieldLink RX1 129 "LanternWeirs$Bed" "sprays" "LLanternWeirs$Row;"]
def wsL_foresee_r4 : List Cond := [Cond.methodLink RX1 119 yX1_catchesAhead, Cond.instanceMethod yX1_catchesAhead, Cond.selects RX1 yX1_catchesAhead yX1_catchesAhead, Cond.code yX1_catchesAhead cX1_catchesAhead 4 (some .boolean), Cond.methodLink RX1 92 yX1_cell, Cond.static yX1_cell, Cond.code yX1_cell cX1_cell 3 (some .int), Cond.methodLink RX1 122 yX1_moveTo, Cond.instanceMethod yX1_moveTo, Cond.selects RX1 yX1_moveTo yX1_moveTo, Cond.code yX1_moveTo cX1_moveTo 4 none, Cond.methodLink RX1 69 yX1_crowdBy, Cond.instanceMethod yX1_crowdBy, Cond.selects RX1 yX1_crowdBy yX1_crowdBy, Cond.code yX1_crowdBy cX1_crowdBy 4 none, Cond.methodLink RX1 126 yX1_leave, Cond.instanceMethod yX1_leave, Cond.selects RX1 yX1_leave yX1_leave, Cond.code yX1_leave cX1_leave 3 none, Cond.methodLink RX1 132 yX1_meetWeir, Cond.instanceMethod yX1_meetWeir, Cond.selects RX1 yX1_meetWeir yX1_meetWeir, Cond.code yX1_meetWeir cX1_meetWeir 6 none, Cond.methodLink RX1 89 yX1_isSoaked]
def wsL_foresee_r5 : List Cond := [Cond.instanceMethod yX1_isSoaked, Cond.selects RX1 yX1_isSoaked yX1_isSoaked, Cond.code yX1_isSoaked cX1_isSoaked 2 (some .boolean), Cond.static yX3_sprayTakenBy, Cond.code yX3_sprayTakenBy cX3_sprayTakenBy 1 (some .int), Cond.methodLink RX1 135 yX0_hasNet, Cond.instanceMethod yX0_hasNet, Cond.selects RX0 yX0_hasNet yX0_hasNet, Cond.initialized RX0, Cond.code yX0_hasNet cX0_hasNet 3 (some .boolean), Cond.fieldLink RX0 23 "LanternWeirs$Bed" "nets" "LLanternWeirs$Row;", Cond.methodLink RX0 37 yX2_get, Cond.methodLink RX1 108 yX1_useWax, Cond.instanceMethod yX1_useWax, Cond.selects RX1 yX1_useWax yX1_useWax, Cond.code yX1_useWax cX1_useWax 3 none, Cond.methodLink RX1 86 yX1_isBurning, Cond.instanceMethod yX1_isBurning, Cond.selects RX1 yX1_isBurning yX1_isBurning, Cond.code yX1_isBurning cX1_isBurning 2 (some .boolean), Cond.methodLink RX3 172 yX1_tally, Cond.instanceMethod yX1_tally, Cond.selects RX1 yX1_tally yX1_tally, Cond.code yX1_tally cX1_tally 4 (some .int)]
def wsL_foresee_r6 : List Cond := [Cond.methodLink RX1 96 yX1_share, Cond.instanceMethod yX1_share, Cond.selects RX1 yX1_share yX1_share, Cond.code yX1_share cX1_share 5 (some .int)]
def wsL_foresee : List Cond := .codeWith yL_foresee cL_foresee 5 (some .int) [(0, 10, 13, 15), (0, 10, 17, 13)] :: ((wsL_foresee_r1 ++ (wsL_foresee_r2 ++ (wsL_foresee_r3 ++ (wsL_foresee_r4 ++ (wsL_foresee_r5 ++ wsL_foresee_r6))))) ++ wsX30 ++ wsX10 ++ wsX20 ++ wsX00 ++ (vx_atS RX3 45 "java/lang/IllegalArgumentException" ["java/lang/RuntimeException", "java/lang/Exception"]).filter goodWord ++ (vx_atS RX3 34 "java/lang/IndexOutOfBoundsException" ["java/lang/RuntimeException", "java/lang/Exception"]).filter goodWord)
def wsL_advise_r1 : List Cond := [Cond.classLink RL 13 "java/lang/IndexOutOfBoundsException", Cond.methodLink RL 61 yX3_advise, Cond.instanceMethod yX3_advise, Cond.selects RX3 yX3_advise yX3_advise, Cond.initialized RX3, Cond.code yX3_advise cX3_advise 6 (some .int), Cond.classLink RX3 30 "java/lang/IndexOutOfBoundsException", Cond.initialized "java/lang/IndexOutOfBoundsException", Cond.methodLink RX3 103 yX3_isFrame, Cond.static yX3_isFrame, Cond.code yX3_isFrame cX3_isFrame 1 (some .boolean), Cond.methodLink RX3 37 yX3_isWithin, Cond.static yX3_isWithin, Cond.code yX3_isWithin cX3_isWithin 3 (some .boolean), Cond.methodLink RX3 187 yX3_minutesToNet, Cond.instanceMethod yX3_minutesToNet, Cond.selects RX3 yX3_minutesToNet yX3_minutesToNet, Cond.code yX3_minutesToNet cX3_minutesToNet 5 (some .int), Cond.fieldLink RX3 23 "LanternWeirs" "dream" "LLanternWeirs$Fleet;", Cond.fieldLink RX3 19 "LanternWeirs" "fleet" "LLanternWeirs$Fleet;", Cond.fieldLink RX3 10 "LanternWeirs" "bed" "LLanternWeirs$Bed;", Cond.fieldLink RX3 203 "LanternWeirs$Fleet" "states" "LLanternWeirs$Row;", Cond.methodLink RX3 179 yX1_copy, Cond.instanceMethod yX1_copy]
def wsL_advise_r2 : List Cond := [Cond.selects RX1 yX1_copy yX1_copy, Cond.initialized RX1, Cond.code yX1_copy cX1_copy 2 none, Cond.fieldLink RX1 16 "LanternWeirs$Fleet" "frames" "LLanternWeirs$Row;", Cond.fieldLink RX1 20 "LanternWeirs$Fleet" "wishes" "LLanternWeirs$Row;", Cond.fieldLink RX1 23 "LanternWeirs$Fleet" "lanes" "LLanternWeirs$Row;", Cond.fieldLink RX1 26 "LanternWeirs$Fleet" "places" "LLanternWeirs$Row;", Cond.fieldLink RX1 29 "LanternWeirs$Fleet" "waxes" "LLanternWeirs$Row;", Cond.fieldLink RX1 32 "LanternWeirs$Fleet" "wets" "LLanternWeirs$Row;", Cond.fieldLink RX1 35 "LanternWeirs$Fleet" "burning" "LLanternWeirs$Row;", Cond.fieldLink RX1 38 "LanternWeirs$Fleet" "states" "LLanternWeirs$Row;", Cond.fieldLink RX1 41 "LanternWeirs$Fleet" "ends" "LLanternWeirs$Row;", Cond.fieldLink RX1 44 "LanternWeirs$Fleet" "crowd" "LLanternWeirs$Row;", Cond.fieldLink RX1 54 "LanternWeirs$Fleet" "size" "I", Cond.fieldLink RX1 58 "LanternWeirs$Fleet" "minute" "I", Cond.methodLink RX1 50 yX2_copy, Cond.instanceMethod yX2_copy, Cond.selects RX2 yX2_copy yX2_copy, Cond.initialized RX2, Cond.code yX2_copy cX2_copy 3 none, Cond.fieldLink RX2 7 "LanternWeirs$Row" "cells" "[I", Cond.methodLink RX2 13 yX2_get, Cond.instanceMethod yX2_get, Cond.selects RX2 yX2_get yX2_get]
def wsL_advise_r3 : List Cond := [Cond.code yX2_get cX2_get 2 (some .int), Cond.methodLink RX3 115 yX1_add, Cond.instanceMethod yX1_add, Cond.selects RX1 yX1_add yX1_add, Cond.code yX1_add cX1_add 6 (some .int), Cond.methodLink RX1 61 yX2_put, Cond.instanceMethod yX2_put, Cond.selects RX2 yX2_put yX2_put, Cond.code yX2_put cX2_put 3 none, Cond.static yX3_waxOf, Cond.code yX3_waxOf cX3_waxOf 1 (some .int), Cond.methodLink RX1 69 yX1_crowdBy, Cond.instanceMethod yX1_crowdBy, Cond.selects RX1 yX1_crowdBy yX1_crowdBy, Cond.code yX1_crowdBy cX1_crowdBy 4 none, Cond.methodLink RX1 80 yX2_get, Cond.methodLink RX1 92 yX1_cell, Cond.static yX1_cell, Cond.code yX1_cell cX1_cell 3 (some .int), Cond.methodLink RX3 152 yX1_isBurning, Cond.instanceMethod yX1_isBurning, Cond.selects RX1 yX1_isBurning yX1_isBurning, Cond.code yX1_isBurning cX1_isBurning 2 (some .boolean), Cond.methodLink RX1 76 yX1_has]
def wsL_advise_r4 : List Cond := [Cond.instanceMethod yX1_has, Cond.selects RX1 yX1_has yX1_has, Cond.code yX1_has cX1_has 2 (some .boolean), Cond.methodLink RX3 175 yX1_passMinutes, Cond.instanceMethod yX1_passMinutes, Cond.selects RX1 yX1_passMinutes yX1_passMinutes, Cond.code yX1_passMinutes cX1_passMinutes 6 none, Cond.fieldLink RX1 47 "LanternWeirs$Fleet" "queue" "LLanternWeirs$Row;", Cond.methodLink RX1 100 yX1_lineUp, Cond.instanceMethod yX1_lineUp, Cond.selects RX1 yX1_lineUp yX1_lineUp, Cond.code yX1_lineUp cX1_lineUp 6 (some .int), Cond.methodLink RX1 111 yX1_isAfloat, Cond.instanceMethod yX1_isAfloat, Cond.selects RX1 yX1_isAfloat yX1_isAfloat, Cond.code yX1_isAfloat cX1_isAfloat 2 (some .boolean), Cond.methodLink RX1 104 yX1_drift, Cond.instanceMethod yX1_drift, Cond.selects RX1 yX1_drift yX1_drift, Cond.code yX1_drift cX1_drift 7 none, Cond.fieldLink RX1 114 "LanternWeirs$Bed" "currents" "LLanternWeirs$Row;", Cond.fieldLink RX1 129 "LanternWeirs$Bed" "sprays" "LLanternWeirs$Row;", Cond.methodLink RX1 119 yX1_catchesAhead, Cond.instanceMethod yX1_catchesAhead]
def wsL_advise_r5 : List Cond := [Cond.selects RX1 yX1_catchesAhead yX1_catchesAhead, Cond.code yX1_catchesAhead cX1_catchesAhead 4 (some .boolean), Cond.methodLink RX1 122 yX1_moveTo, Cond.instanceMethod yX1_moveTo, Cond.selects RX1 yX1_moveTo yX1_moveTo, Cond.code yX1_moveTo cX1_moveTo 4 none, Cond.methodLink RX1 126 yX1_leave, Cond.instanceMethod yX1_leave, Cond.selects RX1 yX1_leave yX1_leave, Cond.code yX1_leave cX1_leave 3 none, Cond.methodLink RX1 132 yX1_meetWeir, Cond.instanceMethod yX1_meetWeir, Cond.selects RX1 yX1_meetWeir yX1_meetWeir, Cond.code yX1_meetWeir cX1_meetWeir 6 none, Cond.methodLink RX1 89 yX1_isSoaked, Cond.instanceMethod yX1_isSoaked, Cond.selects RX1 yX1_isSoaked yX1_isSoaked, Cond.code yX1_isSoaked cX1_isSoaked 2 (some .boolean), Cond.static yX3_sprayTakenBy, Cond.code yX3_sprayTakenBy cX3_sprayTakenBy 1 (some .int), Cond.methodLink RX1 135 yX0_hasNet, Cond.instanceMethod yX0_hasNet, Cond.selects RX0 yX0_hasNet yX0_hasNet, Cond.initialized RX0]
def wsL_advise_r6 : List Cond := [Cond.code yX0_hasNet cX0_hasNet 3 (some .boolean), Cond.fieldLink RX0 23 "LanternWeirs$Bed" "nets" "LLanternWeirs$Row;", Cond.methodLink RX0 37 yX2_get, Cond.methodLink RX1 108 yX1_useWax, Cond.instanceMethod yX1_useWax, Cond.selects RX1 yX1_useWax yX1_useWax, Cond.code yX1_useWax cX1_useWax 3 none, Cond.methodLink RX1 86 yX1_isBurning, Cond.methodLink RX3 50 yX2_get]
def wsL_advise : List Cond := .codeWith yL_advise cL_advise 4 (some .int) [(0, 9, 12, 13)] :: ((wsL_advise_r1 ++ (wsL_advise_r2 ++ (wsL_advise_r3 ++ (wsL_advise_r4 ++ (wsL_advise_r5 ++ wsL_advise_r6))))) ++ wsX30 ++ wsX10 ++ wsX20 ++ wsX00 ++ (vx_atS RX3 34 "java/lang/IndexOutOfBoundsException" ["java/lang/RuntimeException", "java/lang/Exception"]).filter goodWord)
def wsL_law0_r1 : List Cond := [Cond.classLink RL 8 RX3, Cond.instantiable RX3 3, Cond.initialized RX3, Cond.classLink RL 65 RX5, Cond.instantiable RX5 8, Cond.initialized RX5, Cond.arrayClass .long, Cond.methodLink RL 64 yX3_init, Cond.instanceMethod yX3_init, Cond.code yX3_init cX3_init 1 none, Cond.methodLink RX3 1 objectInit, Cond.instanceMethod objectInit, Cond.code objectInit ⟨#[0xb1]⟩ 1 none, Cond.classLink RX3 7 RX0, Cond.instantiable RX0 5, Cond.initialized RX0, Cond.fieldLink RX3 10 "LanternWeirs" "bed" "LLanternWeirs$Bed;", Cond.classLink RX3 16 RX1, Cond.instantiable RX1 13, Cond.initialized RX1, Cond.fieldLink RX3 19 "LanternWeirs" "fleet" "LLanternWeirs$Fleet;", Cond.fieldLink RX3 23 "LanternWeirs" "dream" "LLanternWeirs$Fleet;", Cond.methodLink RX3 9 yX0_init, Cond.instanceMethod yX0_init]
def wsL_law0_r2 : List Cond := [Cond.code yX0_init cX0_init 1 none, Cond.methodLink RX0 3 objectInit, Cond.classLink RX0 9 RX2, Cond.instantiable RX2 1, Cond.initialized RX2, Cond.fieldLink RX0 14 "LanternWeirs$Bed" "currents" "LLanternWeirs$Row;", Cond.fieldLink RX0 20 "LanternWeirs$Bed" "sprays" "LLanternWeirs$Row;", Cond.fieldLink RX0 23 "LanternWeirs$Bed" "nets" "LLanternWeirs$Row;", Cond.methodLink RX0 11 yX2_init, Cond.instanceMethod yX2_init, Cond.code yX2_init cX2_init 2 none, Cond.methodLink RX2 1 objectInit, Cond.arrayClass .int, Cond.fieldLink RX2 7 "LanternWeirs$Row" "cells" "[I", Cond.methodLink RX0 26 yX2_put, Cond.instanceMethod yX2_put, Cond.selects RX2 yX2_put yX2_put, Cond.code yX2_put cX2_put 3 none, Cond.instanceMethod yX1_init, Cond.code yX1_init cX1_init 1 none, Cond.methodLink RX1 3 objectInit, Cond.classLink RX1 9 RX2, Cond.fieldLink RX1 16 "LanternWeirs$Fleet" "frames" "LLanternWeirs$Row;", Cond.fieldLink RX1 20 "LanternWeirs$Fleet" "wishes" "LLanternWeirs$Row;"]
def wsL_law0_r3 : List Cond := [Cond.fieldLink RX1 23 "LanternWeirs$Fleet" "lanes" "LLanternWeirs$Row;", Cond.fieldLink RX1 26 "LanternWeirs$Fleet" "places" "LLanternWeirs$Row;", Cond.fieldLink RX1 29 "LanternWeirs$Fleet" "waxes" "LLanternWeirs$Row;", Cond.fieldLink RX1 32 "LanternWeirs$Fleet" "wets" "LLanternWeirs$Row;", Cond.fieldLink RX1 35 "LanternWeirs$Fleet" "burning" "LLanternWeirs$Row;", Cond.fieldLink RX1 38 "LanternWeirs$Fleet" "states" "LLanternWeirs$Row;", Cond.fieldLink RX1 41 "LanternWeirs$Fleet" "ends" "LLanternWeirs$Row;", Cond.fieldLink RX1 44 "LanternWeirs$Fleet" "crowd" "LLanternWeirs$Row;", Cond.fieldLink RX1 47 "LanternWeirs$Fleet" "queue" "LLanternWeirs$Row;", Cond.methodLink RX1 13 yX2_init, Cond.methodLink RL 67 yX5_init, Cond.instanceMethod yX5_init, Cond.code yX5_init cX5_init 1 none, Cond.methodLink RX5 1 objectInit, Cond.fieldLink RX5 7 "LanternWeirsModel" "current" "[I", Cond.fieldLink RX5 13 "LanternWeirsModel" "spray" "[I", Cond.fieldLink RX5 16 "LanternWeirsModel" "net" "[I", Cond.classLink RX5 19 RX4, Cond.instantiable RX4 13, Cond.initialized RX4, Cond.fieldLink RX5 24 "LanternWeirsModel" "s" "LLanternWeirsModel$State;", Cond.fieldLink RX5 28 "LanternWeirsModel" "ahead" "LLanternWeirsModel$State;", Cond.instanceMethod yX4_init, Cond.code yX4_init cX4_init 2 none]
def wsL_law0_r4 : List Cond := [Cond.fieldLink RX4 3 "LanternWeirsModel$State" "this$0" "LLanternWeirsModel;", Cond.methodLink RX4 9 objectInit, Cond.fieldLink RX4 15 "LanternWeirsModel$State" "frame" "[I", Cond.fieldLink RX4 19 "LanternWeirsModel$State" "wish" "[I", Cond.fieldLink RX4 22 "LanternWeirsModel$State" "lane" "[I", Cond.fieldLink RX4 25 "LanternWeirsModel$State" "place" "[I", Cond.fieldLink RX4 28 "LanternWeirsModel$State" "wax" "[I", Cond.fieldLink RX4 31 "LanternWeirsModel$State" "wet" "[I", Cond.fieldLink RX4 34 "LanternWeirsModel$State" "burns" "[I", Cond.fieldLink RX4 37 "LanternWeirsModel$State" "state" "[I", Cond.fieldLink RX4 40 "LanternWeirsModel$State" "ended" "[I", Cond.fieldLink RX4 43 "LanternWeirsModel$State" "order" "[I", Cond.methodLink RL 68 yL_setCurrent, Cond.static yL_setCurrent, Cond.initialized RL, Cond.codeWith yL_setCurrent cL_setCurrent 5 (some .int) [(0, 10, 13, 13), (0, 10, 17, 15)], Cond.classLink RL 13 "java/lang/IndexOutOfBoundsException", Cond.classLink RL 15 "java/lang/IllegalArgumentException", Cond.methodLink RL 7 yX3_setCurrent, Cond.instanceMethod yX3_setCurrent, Cond.selects RX3 yX3_setCurrent yX3_setCurrent, Cond.code yX3_setCurrent cX3_setCurrent 4 (some .int), Cond.classLink RX3 30 "java/lang/IndexOutOfBoundsException", Cond.initialized "java/lang/IndexOutOfBoundsException"]
def wsL_law0_r5 : List Cond := [Cond.classLink RX3 41 "java/lang/IllegalArgumentException", Cond.initialized "java/lang/IllegalArgumentException", Cond.fieldLink RX3 46 "LanternWeirs$Bed" "currents" "LLanternWeirs$Row;", Cond.methodLink RX3 26 yX3_isLane, Cond.static yX3_isLane, Cond.code yX3_isLane cX3_isLane 1 (some .boolean), Cond.methodLink RX3 37 yX3_isWithin, Cond.static yX3_isWithin, Cond.code yX3_isWithin cX3_isWithin 3 (some .boolean), Cond.methodLink RX3 50 yX2_get, Cond.instanceMethod yX2_get, Cond.selects RX2 yX2_get yX2_get, Cond.code yX2_get cX2_get 2 (some .int), Cond.methodLink RX3 56 yX2_put, Cond.methodLink RL 73 yX5_setCurrent, Cond.instanceMethod yX5_setCurrent, Cond.selects RX5 yX5_setCurrent yX5_setCurrent, Cond.code yX5_setCurrent cX5_setCurrent 4 (some .int), Cond.fieldLink RX5 31 "LanternWeirsModel" "thrown" "I", Cond.methodLink RX5 42 yX5_isLane, Cond.static yX5_isLane, Cond.code yX5_isLane cX5_isLane 1 (some .boolean), Cond.methodLink RX5 35 yX5_isIn, Cond.static yX5_isIn]
def wsL_law0_r6 : List Cond := [Cond.code yX5_isIn cX5_isIn 3 (some .boolean), Cond.methodLink RX5 46 yX5_no, Cond.instanceMethod yX5_no, Cond.selects RX5 yX5_no yX5_no, Cond.code yX5_no cX5_no 2 (some .int), Cond.methodLink RL 74 yX5_thrown, Cond.instanceMethod yX5_thrown, Cond.selects RX5 yX5_thrown yX5_thrown, Cond.code yX5_thrown cX5_thrown 1 (some .int), Cond.methodLink RL 78 yL_weir, Cond.static yL_weir, Cond.codeWith yL_weir cL_weir 5 (some .int) [(0, 10, 13, 13), (0, 10, 17, 15), (0, 10, 21, 20)], Cond.classLink RL 20 "java/lang/IllegalStateException", Cond.methodLink RL 17 yX3_weir, Cond.instanceMethod yX3_weir, Cond.selects RX3 yX3_weir yX3_weir, Cond.code yX3_weir cX3_weir 3 (some .int), Cond.classLink RX3 71 "java/lang/IllegalStateException", Cond.initialized "java/lang/IllegalStateException", Cond.fieldLink RX3 64 "LanternWeirs$Bed" "weirs" "I", Cond.fieldLink RX3 68 "LanternWeirs$Bed" "sprays" "LLanternWeirs$Row;", Cond.methodLink RX3 76 yX0_addWeir, Cond.instanceMethod yX0_addWeir, Cond.selects RX0 yX0_addWeir yX0_addWeir]
def wsL_law0_r7 : List Cond := [Cond.code yX0_addWeir cX0_addWeir 3 (some .int), Cond.fieldLink RX0 30 "LanternWeirs$Bed" "weirs" "I", Cond.methodLink RL 80 yX5_weir, Cond.instanceMethod yX5_weir, Cond.selects RX5 yX5_weir yX5_weir, Cond.code yX5_weir cX5_weir 3 (some .int), Cond.fieldLink RX5 53 "LanternWeirsModel" "weirs" "I", Cond.methodLink RX5 50 yX5_isPlace, Cond.static yX5_isPlace, Cond.code yX5_isPlace cX5_isPlace 1 (some .boolean), Cond.methodLink RL 81 yL_net, Cond.static yL_net, Cond.codeWith yL_net cL_net 5 (some .int) [(0, 10, 13, 13), (0, 10, 17, 20)], Cond.methodLink RL 22 yX3_net, Cond.instanceMethod yX3_net, Cond.selects RX3 yX3_net yX3_net, Cond.code yX3_net cX3_net 3 (some .int), Cond.fieldLink RX3 82 "LanternWeirs$Bed" "netCount" "I", Cond.methodLink RX3 85 yX0_hasNet, Cond.instanceMethod yX0_hasNet, Cond.selects RX0 yX0_hasNet yX0_hasNet, Cond.code yX0_hasNet cX0_hasNet 3 (some .boolean), Cond.methodLink RX0 37 yX2_get, Cond.methodLink RX3 91 yX0_addNet]
def wsL_law0_r8 : List Cond := [Cond.instanceMethod yX0_addNet, Cond.selects RX0 yX0_addNet yX0_addNet, Cond.code yX0_addNet cX0_addNet 3 (some .int), Cond.fieldLink RX0 34 "LanternWeirs$Bed" "netCount" "I", Cond.methodLink RL 83 yX5_net, Cond.instanceMethod yX5_net, Cond.selects RX5 yX5_net yX5_net, Cond.code yX5_net cX5_net 3 (some .int), Cond.fieldLink RX5 56 "LanternWeirsModel" "nets" "I", Cond.methodLink RL 84 yL_river, Cond.static yL_river, Cond.codeWith yL_river cL_river 6 (some .int) [(0, 12, 15, 13)], Cond.methodLink RL 25 yX3_river, Cond.instanceMethod yX3_river, Cond.selects RX3 yX3_river yX3_river, Cond.code yX3_river cX3_river 4 (some .int), Cond.methodLink RX3 94 yX3_isPlace, Cond.static yX3_isPlace, Cond.code yX3_isPlace cX3_isPlace 1 (some .boolean), Cond.methodLink RX3 99 yX3_riverFact, Cond.instanceMethod yX3_riverFact, Cond.selects RX3 yX3_riverFact yX3_riverFact, Cond.code yX3_riverFact cX3_riverFact 4 (some .int), Cond.methodLink RX3 194 yX1_floatingAt]
def wsL_law0_r9 : List Cond := [Cond.instanceMethod yX1_floatingAt, Cond.selects RX1 yX1_floatingAt yX1_floatingAt, Cond.code yX1_floatingAt cX1_floatingAt 5 (some .int), Cond.methodLink RX1 92 yX1_cell, Cond.static yX1_cell, Cond.code yX1_cell cX1_cell 3 (some .int), Cond.methodLink RX1 80 yX2_get, Cond.methodLink RX3 197 yX1_caughtAt, Cond.instanceMethod yX1_caughtAt, Cond.selects RX1 yX1_caughtAt yX1_caughtAt, Cond.code yX1_caughtAt cX1_caughtAt 5 (some .int), Cond.fieldLink RX1 54 "LanternWeirs$Fleet" "size" "I", Cond.methodLink RL 87 yX5_river, Cond.instanceMethod yX5_river, Cond.selects RX5 yX5_river yX5_river, Cond.code yX5_river cX5_river 4 (some .int), Cond.methodLink RX5 63 yX5_riverTold, Cond.instanceMethod yX5_riverTold, Cond.selects RX5 yX5_riverTold yX5_riverTold, Cond.code yX5_riverTold cX5_riverTold 4 (some .int), Cond.methodLink RX5 59 yX4_at, Cond.instanceMethod yX4_at, Cond.selects RX4 yX4_at yX4_at, Cond.code yX4_at cX4_at 6 (some .int)]
def wsL_law0_r10 : List Cond := [Cond.fieldLink RX4 56 "LanternWeirsModel$State" "lanterns" "I", Cond.methodLink RL 88 yL_launch, Cond.static yL_launch, Cond.codeWith yL_launch cL_launch 7 (some .int) [(0, 14, 17, 13), (0, 14, 21, 15), (0, 14, 25, 20)], Cond.methodLink RL 29 yX3_launch, Cond.instanceMethod yX3_launch, Cond.selects RX3 yX3_launch yX3_launch, Cond.code yX3_launch cX3_launch 5 (some .int), Cond.fieldLink RX3 110 "LanternWeirs$Fleet" "size" "I", Cond.methodLink RX3 103 yX3_isFrame, Cond.static yX3_isFrame, Cond.code yX3_isFrame cX3_isFrame 1 (some .boolean), Cond.methodLink RX3 115 yX1_add, Cond.instanceMethod yX1_add, Cond.selects RX1 yX1_add yX1_add, Cond.code yX1_add cX1_add 6 (some .int), Cond.methodLink RX1 61 yX2_put, Cond.static yX3_waxOf, Cond.code yX3_waxOf cX3_waxOf 1 (some .int), Cond.methodLink RX1 69 yX1_crowdBy, Cond.instanceMethod yX1_crowdBy, Cond.selects RX1 yX1_crowdBy yX1_crowdBy, Cond.code yX1_crowdBy cX1_crowdBy 4 none, Cond.methodLink RL 91 yX5_launch]
def wsL_law0_r11 : List Cond := [Cond.instanceMethod yX5_launch, Cond.selects RX5 yX5_launch yX5_launch, Cond.code yX5_launch cX5_launch 5 (some .int), Cond.methodLink RX5 66 yX4_launch, Cond.instanceMethod yX4_launch, Cond.selects RX4 yX4_launch yX4_launch, Cond.code yX4_launch cX4_launch 5 (some .int), Cond.methodLink RL 92 yL_push, Cond.static yL_push, Cond.codeWith yL_push cL_push 5 (some .int) [(0, 10, 13, 13), (0, 10, 17, 20)], Cond.methodLink RL 33 yX3_push, Cond.instanceMethod yX3_push, Cond.selects RX3 yX3_push yX3_push, Cond.code yX3_push cX3_push 4 (some .int), Cond.fieldLink RX3 129 "LanternWeirs$Fleet" "lanes" "LLanternWeirs$Row;", Cond.fieldLink RX3 132 "LanternWeirs$Fleet" "places" "LLanternWeirs$Row;", Cond.methodLink RX3 119 yX1_has, Cond.instanceMethod yX1_has, Cond.selects RX1 yX1_has yX1_has, Cond.code yX1_has cX1_has 2 (some .boolean), Cond.methodLink RX3 124 yX1_isAfloat, Cond.instanceMethod yX1_isAfloat, Cond.selects RX1 yX1_isAfloat yX1_isAfloat, Cond.code yX1_isAfloat cX1_isAfloat 2 (some .boolean)]
def wsL_law0_r12 : List Cond := [Cond.methodLink RX1 76 yX1_has, Cond.methodLink RX3 135 yX1_moveTo, Cond.instanceMethod yX1_moveTo, Cond.selects RX1 yX1_moveTo yX1_moveTo, Cond.code yX1_moveTo cX1_moveTo 4 none, Cond.methodLink RL 94 yX5_push, Cond.instanceMethod yX5_push, Cond.selects RX5 yX5_push yX5_push, Cond.code yX5_push cX5_push 4 (some .int), Cond.methodLink RX5 70 yX5_isLantern, Cond.instanceMethod yX5_isLantern, Cond.selects RX5 yX5_isLantern yX5_isLantern, Cond.code yX5_isLantern cX5_isLantern 2 (some .boolean), Cond.methodLink RL 95 yL_light, Cond.static yL_light, Cond.codeWith yL_light cL_light 4 (some .int) [(0, 9, 12, 13), (0, 9, 15, 20)], Cond.methodLink RL 36 yX3_light, Cond.instanceMethod yX3_light, Cond.selects RX3 yX3_light yX3_light, Cond.code yX3_light cX3_light 2 (some .int), Cond.fieldLink RX3 146 "LanternWeirs$Fleet" "burning" "LLanternWeirs$Row;", Cond.fieldLink RX3 149 "LanternWeirs$Fleet" "waxes" "LLanternWeirs$Row;", Cond.methodLink RX3 141 yX1_canBeLit, Cond.instanceMethod yX1_canBeLit]
def wsL_law0_r13 : List Cond := [Cond.selects RX1 yX1_canBeLit yX1_canBeLit, Cond.code yX1_canBeLit cX1_canBeLit 2 (some .boolean), Cond.methodLink RX1 86 yX1_isBurning, Cond.instanceMethod yX1_isBurning, Cond.selects RX1 yX1_isBurning yX1_isBurning, Cond.code yX1_isBurning cX1_isBurning 2 (some .boolean), Cond.methodLink RX1 89 yX1_isSoaked, Cond.instanceMethod yX1_isSoaked, Cond.selects RX1 yX1_isSoaked yX1_isSoaked, Cond.code yX1_isSoaked cX1_isSoaked 2 (some .boolean), Cond.static yX3_sprayTakenBy, Cond.code yX3_sprayTakenBy cX3_sprayTakenBy 1 (some .int), Cond.methodLink RL 98 yX5_light, Cond.instanceMethod yX5_light, Cond.selects RX5 yX5_light yX5_light, Cond.code yX5_light cX5_light 2 (some .int), Cond.methodLink RX5 82 yX4_isSoaked, Cond.instanceMethod yX4_isSoaked, Cond.selects RX4 yX4_isSoaked yX4_isSoaked, Cond.code yX4_isSoaked cX4_isSoaked 2 (some .boolean), Cond.methodLink RL 99 yL_blow, Cond.static yL_blow, Cond.codeWith yL_blow cL_blow 4 (some .int) [(0, 9, 12, 13), (0, 9, 15, 20)], Cond.methodLink RL 40 yX3_blow]
def wsL_law0_r14 : List Cond := [Cond.instanceMethod yX3_blow, Cond.selects RX3 yX3_blow yX3_blow, Cond.code yX3_blow cX3_blow 2 (some .int), Cond.methodLink RX3 152 yX1_isBurning, Cond.methodLink RL 101 yX5_blow, Cond.instanceMethod yX5_blow, Cond.selects RX5 yX5_blow yX5_blow, Cond.code yX5_blow cX5_blow 2 (some .int), Cond.methodLink RL 102 yL_told, Cond.static yL_told, Cond.codeWith yL_told cL_told 5 (some .int) [(0, 10, 13, 13)], Cond.methodLink RL 43 yX3_told, Cond.instanceMethod yX3_told, Cond.selects RX3 yX3_told yX3_told, Cond.code yX3_told cX3_told 3 (some .int), Cond.methodLink RX3 159 yX1_fact, Cond.instanceMethod yX1_fact, Cond.selects RX1 yX1_fact yX1_fact, Cond.code yX1_fact cX1_fact 3 (some .int), Cond.methodLink RL 104 yX5_told, Cond.instanceMethod yX5_told, Cond.selects RX5 yX5_told yX5_told, Cond.code yX5_told cX5_told 3 (some .int), Cond.methodLink RX5 103 yX5_lanternTold]
def wsL_law0_r15 : List Cond := [Cond.instanceMethod yX5_lanternTold, Cond.selects RX5 yX5_lanternTold yX5_lanternTold, Cond.code yX5_lanternTold cX5_lanternTold 4 (some .int), Cond.methodLink RL 105 yL_next, Cond.static yL_next, Cond.codeWith yL_next cL_next 4 (some .int) [(0, 9, 12, 13)], Cond.methodLink RL 46 yX3_next, Cond.instanceMethod yX3_next, Cond.selects RX3 yX3_next yX3_next, Cond.code yX3_next cX3_next 2 (some .int), Cond.methodLink RX3 162 yX3_nextWeir, Cond.instanceMethod yX3_nextWeir, Cond.selects RX3 yX3_nextWeir yX3_nextWeir, Cond.code yX3_nextWeir cX3_nextWeir 3 (some .int), Cond.methodLink RL 107 yX5_next, Cond.instanceMethod yX5_next, Cond.selects RX5 yX5_next yX5_next, Cond.code yX5_next cX5_next 2 (some .int), Cond.methodLink RX5 107 yX5_nextOf, Cond.instanceMethod yX5_nextOf, Cond.selects RX5 yX5_nextOf yX5_nextOf, Cond.code yX5_nextOf cX5_nextOf 3 (some .int), Cond.methodLink RL 108 yL_count, Cond.static yL_count]
def wsL_law0_r16 : List Cond := [Cond.codeWith yL_count cL_count 4 (some .int) [(0, 9, 12, 13)], Cond.methodLink RL 49 yX3_count, Cond.instanceMethod yX3_count, Cond.selects RX3 yX3_count yX3_count, Cond.code yX3_count cX3_count 2 (some .int), Cond.methodLink RX3 167 yX3_counted, Cond.instanceMethod yX3_counted, Cond.selects RX3 yX3_counted yX3_counted, Cond.code yX3_counted cX3_counted 2 (some .int), Cond.fieldLink RX3 200 "LanternWeirs$Fleet" "minute" "I", Cond.methodLink RX3 172 yX1_tally, Cond.instanceMethod yX1_tally, Cond.selects RX1 yX1_tally yX1_tally, Cond.code yX1_tally cX1_tally 4 (some .int), Cond.methodLink RX1 96 yX1_share, Cond.instanceMethod yX1_share, Cond.selects RX1 yX1_share yX1_share, Cond.code yX1_share cX1_share 5 (some .int), Cond.methodLink RL 110 yX5_count, Cond.instanceMethod yX5_count, Cond.selects RX5 yX5_count yX5_count, Cond.code yX5_count cX5_count 2 (some .int), Cond.methodLink RX5 110 yX4_counted, Cond.instanceMethod yX4_counted]
def wsL_law0_r17 : List Cond := [Cond.selects RX4 yX4_counted yX4_counted, Cond.code yX4_counted cX4_counted 4 (some .int), Cond.fieldLink RX4 52 "LanternWeirsModel$State" "minute" "I", Cond.methodLink RL 111 yL_pass, Cond.static yL_pass, Cond.codeWith yL_pass cL_pass 4 (some .int) [(0, 9, 12, 15)], Cond.methodLink RL 52 yX3_pass, Cond.instanceMethod yX3_pass, Cond.selects RX3 yX3_pass yX3_pass, Cond.code yX3_pass cX3_pass 3 (some .int), Cond.methodLink RX3 175 yX1_passMinutes, Cond.instanceMethod yX1_passMinutes, Cond.selects RX1 yX1_passMinutes yX1_passMinutes, Cond.code yX1_passMinutes cX1_passMinutes 6 none, Cond.fieldLink RX1 58 "LanternWeirs$Fleet" "minute" "I", Cond.methodLink RX1 100 yX1_lineUp, Cond.instanceMethod yX1_lineUp, Cond.selects RX1 yX1_lineUp yX1_lineUp, Cond.code yX1_lineUp cX1_lineUp 6 (some .int), Cond.methodLink RX1 111 yX1_isAfloat, Cond.methodLink RX1 104 yX1_drift, Cond.instanceMethod yX1_drift, Cond.selects RX1 yX1_drift yX1_drift, Cond.code yX1_drift cX1_drift 7 none]
def wsL_law0_r18 : List Cond := [Cond.fieldLink RX1 114 "LanternWeirs$Bed" "currents" "LLanternWeirs$Row;", Cond.fieldLink RX1 129 "LanternWeirs$Bed" "sprays" "LLanternWeirs$Row;", Cond.methodLink RX1 119 yX1_catchesAhead, Cond.instanceMethod yX1_catchesAhead, Cond.selects RX1 yX1_catchesAhead yX1_catchesAhead, Cond.code yX1_catchesAhead cX1_catchesAhead 4 (some .boolean), Cond.methodLink RX1 122 yX1_moveTo, Cond.methodLink RX1 126 yX1_leave, Cond.instanceMethod yX1_leave, Cond.selects RX1 yX1_leave yX1_leave, Cond.code yX1_leave cX1_leave 3 none, Cond.methodLink RX1 132 yX1_meetWeir, Cond.instanceMethod yX1_meetWeir, Cond.selects RX1 yX1_meetWeir yX1_meetWeir, Cond.code yX1_meetWeir cX1_meetWeir 6 none, Cond.methodLink RX1 135 yX0_hasNet, Cond.methodLink RX1 108 yX1_useWax, Cond.instanceMethod yX1_useWax, Cond.selects RX1 yX1_useWax yX1_useWax, Cond.code yX1_useWax cX1_useWax 3 none, Cond.methodLink RL 113 yX5_pass, Cond.instanceMethod yX5_pass, Cond.selects RX5 yX5_pass yX5_pass, Cond.code yX5_pass cX5_pass 4 (some .int)]
def wsL_law0_r19 : List Cond := [Cond.methodLink RX5 113 yX4_pass_, Cond.instanceMethod yX4_pass_, Cond.selects RX4 yX4_pass_ yX4_pass_, Cond.code yX4_pass_ cX4_pass_ 3 none, Cond.methodLink RX4 107 yX4_sort, Cond.instanceMethod yX4_sort, Cond.selects RX4 yX4_sort yX4_sort, Cond.code yX4_sort cX4_sort 4 (some .int), Cond.methodLink RX4 69 yX4_isAhead, Cond.instanceMethod yX4_isAhead, Cond.selects RX4 yX4_isAhead yX4_isAhead, Cond.code yX4_isAhead cX4_isAhead 3 (some .boolean), Cond.methodLink RX4 111 yX4_drift, Cond.instanceMethod yX4_drift, Cond.selects RX4 yX4_drift yX4_drift, Cond.code yX4_drift cX4_drift 3 none, Cond.methodLink RX4 76 yX4_isCaught, Cond.instanceMethod yX4_isCaught, Cond.selects RX4 yX4_isCaught yX4_isCaught, Cond.code yX4_isCaught cX4_isCaught 3 (some .boolean), Cond.methodLink RX4 80 yX4_end, Cond.instanceMethod yX4_end, Cond.selects RX4 yX4_end yX4_end, Cond.code yX4_end cX4_end 3 none]
def wsL_law0_r20 : List Cond := [Cond.methodLink RX4 84 yX4_pass, Cond.instanceMethod yX4_pass, Cond.selects RX4 yX4_pass yX4_pass, Cond.code yX4_pass cX4_pass 4 none, Cond.methodLink RX4 95 Lib.Math.max.name, Cond.static Lib.Math.max.name, Cond.initialized "java/lang/Math", Cond.code Lib.Math.max.name Lib.Math.max.code 2 (some .int), Cond.methodLink RX4 91 yX4_at, Cond.methodLink RX4 101 yX4_isSoaked, Cond.methodLink RL 114 yL_burns, Cond.static yL_burns, Cond.codeWith yL_burns cL_burns 4 (some .int) [(0, 9, 12, 13)], Cond.methodLink RL 55 yX3_burns, Cond.instanceMethod yX3_burns, Cond.selects RX3 yX3_burns yX3_burns, Cond.code yX3_burns cX3_burns 3 (some .int), Cond.methodLink RX3 179 yX1_copy, Cond.instanceMethod yX1_copy, Cond.selects RX1 yX1_copy yX1_copy, Cond.code yX1_copy cX1_copy 2 none, Cond.methodLink RX1 50 yX2_copy, Cond.instanceMethod yX2_copy, Cond.selects RX2 yX2_copy yX2_copy]
def wsL_law0_r21 : List Cond := [Cond.code yX2_copy cX2_copy 3 none, Cond.methodLink RX2 13 yX2_get, Cond.methodLink RL 116 yX5_burns, Cond.instanceMethod yX5_burns, Cond.selects RX5 yX5_burns yX5_burns, Cond.code yX5_burns cX5_burns 3 (some .int), Cond.methodLink RX5 116 yX4_become, Cond.instanceMethod yX4_become, Cond.selects RX4 yX4_become yX4_become, Cond.code yX4_become cX4_become 2 none, Cond.methodLink RX4 59 yX4_copy, Cond.instanceMethod yX4_copy, Cond.selects RX4 yX4_copy yX4_copy, Cond.code yX4_copy cX4_copy 3 none, Cond.methodLink RX4 46 arraycopyName, Cond.native arraycopyName, Cond.static arraycopyName, Cond.initialized "java/lang/System", Cond.methodLink RL 117 yL_foresee, Cond.static yL_foresee, Cond.codeWith yL_foresee cL_foresee 5 (some .int) [(0, 10, 13, 15), (0, 10, 17, 13)], Cond.methodLink RL 58 yX3_foresee, Cond.instanceMethod yX3_foresee, Cond.selects RX3 yX3_foresee yX3_foresee]
def wsL_law0_r22 : List Cond := [Cond.code yX3_foresee cX3_foresee 3 (some .int), Cond.methodLink RL 119 yX5_foresee, Cond.instanceMethod yX5_foresee, Cond.selects RX5 yX5_foresee yX5_foresee, Cond.code yX5_foresee cX5_foresee 4 (some .int), Cond.methodLink RL 120 yL_advise, Cond.static yL_advise, Cond.codeWith yL_advise cL_advise 4 (some .int) [(0, 9, 12, 13)], Cond.methodLink RL 61 yX3_advise, Cond.instanceMethod yX3_advise, Cond.selects RX3 yX3_advise yX3_advise, Cond.code yX3_advise cX3_advise 6 (some .int), Cond.methodLink RX3 187 yX3_minutesToNet, Cond.instanceMethod yX3_minutesToNet, Cond.selects RX3 yX3_minutesToNet yX3_minutesToNet, Cond.code yX3_minutesToNet cX3_minutesToNet 5 (some .int), Cond.fieldLink RX3 203 "LanternWeirs$Fleet" "states" "LLanternWeirs$Row;", Cond.methodLink RL 122 yX5_advise, Cond.instanceMethod yX5_advise, Cond.selects RX5 yX5_advise yX5_advise, Cond.code yX5_advise cX5_advise 6 (some .int), Cond.methodLink RX5 120 yX5_comes, Cond.instanceMethod yX5_comes, Cond.selects RX5 yX5_comes yX5_comes]
def wsL_law0_r23 : List Cond := [Cond.code yX5_comes cX5_comes 5 (some .int), Cond.methodLink RL 123 yX3_mean, Cond.instanceMethod yX3_mean, Cond.selects RX3 yX3_mean yX3_mean, Cond.code yX3_mean cX3_mean 4 (some .double), Cond.methodLink RL 127 yX5_mean, Cond.instanceMethod yX5_mean, Cond.selects RX5 yX5_mean yX5_mean, Cond.code yX5_mean cX5_mean 4 (some .double), Cond.methodLink RL 128 yX3_digest, Cond.instanceMethod yX3_digest, Cond.selects RX3 yX3_digest yX3_digest, Cond.code yX3_digest cX3_digest 6 (some .long), Cond.constantLong RX3 190 (1297), Cond.constantLong RX3 192 (31), Cond.methodLink RL 132 yX5_digest, Cond.instanceMethod yX5_digest, Cond.selects RX5 yX5_digest yX5_digest, Cond.code yX5_digest cX5_digest 7 (some .long), Cond.constantLong RX5 123 (1297), Cond.constantLong RX5 125 (31)]
def wsL_law0 : List Cond := (wsL_law0_r1 ++ (wsL_law0_r2 ++ (wsL_law0_r3 ++ (wsL_law0_r4 ++ (wsL_law0_r5 ++ (wsL_law0_r6 ++ (wsL_law0_r7 ++ (wsL_law0_r8 ++ (wsL_law0_r9 ++ (wsL_law0_r10 ++ (wsL_law0_r11 ++ (wsL_law0_r12 ++ (wsL_law0_r13 ++ (wsL_law0_r14 ++ (wsL_law0_r15 ++ (wsL_law0_r16 ++ (wsL_law0_r17 ++ (wsL_law0_r18 ++ (wsL_law0_r19 ++ (wsL_law0_r20 ++ (wsL_law0_r21 ++ (wsL_law0_r22 ++ wsL_law0_r23)))))))))))))))))))))) ++ wsX30 ++ wsX50 ++ wsX00 ++ wsX10 ++ wsX20 ++ wsX40 ++ ([] : List Cond)
def wsL_law : List Cond := wsL_law0 ++ (vx_atS RX3 34 "java/lang/IndexOutOfBoundsException" ["java/lang/RuntimeException", "java/lang/Exception"]).filter goodWord ++ (vx_atS RX3 45 "java/lang/IllegalArgumentException" ["java/lang/RuntimeException", "java/lang/Exception"]).filter goodWord ++ (vx_atS RX3 75 "java/lang/IllegalStateException" ["java/lang/RuntimeException", "java/lang/Exception"]).filter goodWord
set_option maxRecDepth 20000 in
theorem wsL_law_in0 : ∀ w ∈ wsL_law0, w ∈ lw_tbl := fun w h => (goodIn_p wsL_law0 [45, 48, 53, 59, 69, 96, 549, 555, 231, 234, 171, 175, 644, 647, 650, 654, 640, 328, 350, 658, 661, 357, 209, 363, 665, 370, 373, 198, 202, 205, 214, 669, 673, 677, 381, 384, 391, 395, 399, 681, 685, 406, 168, 164, 413, 691, 695, 420, 425, 429, 433, 436, 699, 703, 444, 709, 453, 218, 713, 717, 461, 222, 721, 725, 468, 186, 190, 194, 729, 733, 476, 481, 485, 490, 494, 499, 503, 508, 737, 741, 745, 749, 753, 757, 761, 765, 769, 515, 519, 523, 774, 778, 782, 531, 789, 539, 544, 793, 797, 160, 801, 180, 805] (by decide +kernel) (by decide +kernel) w h).1
theorem wsL_law_x0 : ∀ w ∈ (vx_atS RX3 34 "java/lang/IndexOutOfBoundsException" ["java/lang/RuntimeException", "java/lang/Exception"]).filter goodWord, w ∈ lw_tbl := by decide +kernel
theorem wsL_law_x1 : ∀ w ∈ (vx_atS RX3 45 "java/lang/IllegalArgumentException" ["java/lang/RuntimeException", "java/lang/Exception"]).filter goodWord, w ∈ lw_tbl := by decide +kernel
theorem wsL_law_x2 : ∀ w ∈ (vx_atS RX3 75 "java/lang/IllegalStateException" ["java/lang/RuntimeException", "java/lang/Exception"]).filter goodWord, w ∈ lw_tbl := by decide +kernel
theorem wsL_law_in : ∀ w ∈ wsL_law, w ∈ lw_tbl := fun w h => (List.mem_append.mp h).elim (fun h => (List.mem_append.mp h).elim (fun h => (List.mem_append.mp h).elim (fun h => wsL_law_in0 w h) (fun h => wsL_law_x0 w h)) (fun h => wsL_law_x1 w h)) (fun h => wsL_law_x2 w h)
theorem inlX0 : ∀ w ∈ wsX00, w ∈ wsL_law := fun _ h => List.mem_append_left _ (List.mem_append_left _ (List.mem_append_left _ (List.mem_append_left _ (List.mem_append_left _ (List.mem_append_left _ (List.mem_append_left _ (List.mem_append_right _ h)))))))
theorem inX0 : ∀ w ∈ wsX00, w ∈ lw_tbl := fun w h => wsL_law_in w (inlX0 w h)
theorem inlX1 : ∀ w ∈ wsX10, w ∈ wsL_law := fun _ h => List.mem_append_left _ (List.mem_append_left _ (List.mem_append_left _ (List.mem_append_left _ (List.mem_append_left _ (List.mem_append_left _ (List.mem_append_right _ h))))))
theorem inX1 : ∀ w ∈ wsX10, w ∈ lw_tbl := fun w h => wsL_law_in w (inlX1 w h)
theorem inlX2 : ∀ w ∈ wsX20, w ∈ wsL_law := fun _ h => List.mem_append_left _ (List.mem_append_left _ (List.mem_append_left _ (List.mem_append_left _ (List.mem_append_left _ (List.mem_append_right _ h)))))
theorem inX2 : ∀ w ∈ wsX20, w ∈ lw_tbl := fun w h => wsL_law_in w (inlX2 w h)
theorem inlX3 : ∀ w ∈ wsX30, w ∈ wsL_law := fun _ h => List.mem_append_left _ (List.mem_append_left _ (List.mem_append_left _ (List.mem_append_left _ (List.mem_append_left _ (List.mem_append_left _ (List.mem_append_left _ (List.mem_append_left _ (List.mem_append_left _ (List.mem_append_right _ h)))))))))
theorem inX3 : ∀ w ∈ wsX30, w ∈ lw_tbl := fun w h => wsL_law_in w (inlX3 w h)
theorem inlX4 : ∀ w ∈ wsX40, w ∈ wsL_law := fun _ h => List.mem_append_left _ (List.mem_append_left _ (List.mem_append_left _ (List.mem_append_left _ (List.mem_append_right _ h))))
theorem inX4 : ∀ w ∈ wsX40, w ∈ lw_tbl := fun w h => wsL_law_in w (inlX4 w h)
theorem inlX5 : ∀ w ∈ wsX50, w ∈ wsL_law := fun _ h => List.mem_append_left _ (List.mem_append_left _ (List.mem_append_left _ (List.mem_append_left _ (List.mem_append_left _ (List.mem_append_left _ (List.mem_append_left _ (List.mem_append_left _ (List.mem_append_right _ h))))))))
theorem inX5 : ∀ w ∈ wsX50, w ∈ lw_tbl := fun w h => wsL_law_in w (inlX5 w h)
theorem inJ9 : ∀ w ∈ wsJ90, w ∈ lw_tbl := by decide +kernel
theorem inJ0 : ∀ w ∈ wsJ00, w ∈ lw_tbl := by decide +kernel
theorem inJ10 : ∀ w ∈ wsJ100, w ∈ lw_tbl := by decide +kernel
set_option maxRecDepth 20000 in
theorem ggX0_init_X2_init : GoodIn wsX0_init wsX2_init := goodIn_r _ [12, 13, 2, 3, 14, 15, 20] (by decide +kernel) (by decide +kernel)
set_option maxRecDepth 20000 in
theorem gX0_init_X2_init : GoodIn wsX0_init (wsX2_init) := ggX0_init_X2_init
set_option maxRecDepth 20000 in
theorem ggX0_init_X2_put : GoodIn wsX0_init wsX2_put := goodIn_r _ [19, 15, 20] (by decide +kernel) (by decide +kernel)
set_option maxRecDepth 20000 in
theorem gX0_init_X2_put : GoodIn wsX0_init (wsV RX0 26 RX2 yX2_put wsX2_put) := goodIn_app (goodIn_of _ (by decide +kernel)) ggX0_init_X2_put
theorem dX0_init_0 : decode cX0_init 0 = .ok (.aload_n 0, 1) := by decide +kernel
theorem dX0_init_1 : decode cX0_init 1 = .ok (.invokespecial 3, 3) := by decide +kernel
theorem dX0_init_4 : decode cX0_init 4 = .ok (.aload_n 0, 1) := by decide +kernel
theorem dX0_init_5 : decode cX0_init 5 = .ok (.new 9, 3) := by decide +kernel
theorem dX0_init_8 : decode cX0_init 8 = .ok (.dup, 1) := by decide +kernel
theorem dX0_init_9 : decode cX0_init 9 = .ok (.iconst 3, 1) := by decide +kernel
theorem dX0_init_10 : decode cX0_init 10 = .ok (.invokespecial 11, 3) := by decide +kernel
theorem dX0_init_13 : decode cX0_init 13 = .ok (.putfield 14, 3) := by decide +kernel
theorem dX0_init_16 : decode cX0_init 16 = .ok (.aload_n 0, 1) := by decide +kernel
theorem dX0_init_17 : decode cX0_init 17 = .ok (.new 9, 3) := by decide +kernel
theorem dX0_init_20 : decode cX0_init 20 = .ok (.dup, 1) := by decide +kernel
theorem dX0_init_21 : decode cX0_init 21 = .ok (.bipush 60, 2) := by decide +kernel
theorem dX0_init_23 : decode cX0_init 23 = .ok (.invokespecial 11, 3) := by decide +kernel
theorem dX0_init_26 : decode cX0_init 26 = .ok (.putfield 20, 3) := by decide +kernel
theorem dX0_init_29 : decode cX0_init 29 = .ok (.aload_n 0, 1) := by decide +kernel
theorem dX0_init_30 : decode cX0_init 30 = .ok (.new 9, 3) := by decide +kernel
theorem dX0_init_33 : decode cX0_init 33 = .ok (.dup, 1) := by decide +kernel
theorem dX0_init_34 : decode cX0_init 34 = .ok (.sipush 180, 3) := by decide +kernel
theorem dX0_init_37 : decode cX0_init 37 = .ok (.invokespecial 11, 3) := by decide +kernel
theorem dX0_init_40 : decode cX0_init 40 = .ok (.putfield 23, 3) := by decide +kernel
theorem dX0_init_43 : decode cX0_init 43 = .ok (.aload_n 0, 1) := by decide +kernel
theorem dX0_init_44 : decode cX0_init 44 = .ok (.getfield 14, 3) := by decide +kernel
theorem dX0_init_47 : decode cX0_init 47 = .ok (.iconst 0, 1) := by decide +kernel
theorem dX0_init_48 : decode cX0_init 48 = .ok (.iconst 2, 1) := by decide +kernel
theorem dX0_init_49 : decode cX0_init 49 = .ok (.invokevirtual 26, 3) := by decide +kernel
theorem dX0_init_52 : decode cX0_init 52 = .ok (.aload_n 0, 1) := by decide +kernel
theorem dX0_init_53 : decode cX0_init 53 = .ok (.getfield 14, 3) := by decide +kernel
theorem dX0_init_56 : decode cX0_init 56 = .ok (.iconst 1, 1) := by decide +kernel
theorem dX0_init_57 : decode cX0_init 57 = .ok (.iconst 3, 1) := by decide +kernel
theorem dX0_init_58 : decode cX0_init 58 = .ok (.invokevirtual 26, 3) := by decide +kernel
theorem dX0_init_61 : decode cX0_init 61 = .ok (.aload_n 0, 1) := by decide +kernel
theorem dX0_init_62 : decode cX0_init 62 = .ok (.getfield 14, 3) := by decide +kernel
theorem dX0_init_65 : decode cX0_init 65 = .ok (.iconst 2, 1) := by decide +kernel
theorem dX0_init_66 : decode cX0_init 66 = .ok (.iconst 2, 1) := by decide +kernel
theorem dX0_init_67 : decode cX0_init 67 = .ok (.invokevirtual 26, 3) := by decide +kernel
theorem dX0_init_70 : decode cX0_init 70 = .ok (.return_, 1) := by decide +kernel
set_option maxRecDepth 20000 in
theorem ggX0_addWeir_X2_put : GoodIn wsX0_addWeir wsX2_put := goodIn_r _ [7, 8, 14] (by decide +kernel) (by decide +kernel)
set_option maxRecDepth 20000 in
theorem gX0_addWeir_X2_put : GoodIn wsX0_addWeir (wsV RX0 26 RX2 yX2_put wsX2_put) := goodIn_app (goodIn_of _ (by decide +kernel)) ggX0_addWeir_X2_put
theorem dX0_addWeir_0 : decode cX0_addWeir 0 = .ok (.aload_n 0, 1) := by decide +kernel
theorem dX0_addWeir_1 : decode cX0_addWeir 1 = .ok (.getfield 20, 3) := by decide +kernel
theorem dX0_addWeir_4 : decode cX0_addWeir 4 = .ok (.iload_n 1, 1) := by decide +kernel
theorem dX0_addWeir_5 : decode cX0_addWeir 5 = .ok (.iload_n 2, 1) := by decide +kernel
theorem dX0_addWeir_6 : decode cX0_addWeir 6 = .ok (.invokevirtual 26, 3) := by decide +kernel
theorem dX0_addWeir_9 : decode cX0_addWeir 9 = .ok (.aload_n 0, 1) := by decide +kernel
theorem dX0_addWeir_10 : decode cX0_addWeir 10 = .ok (.dup, 1) := by decide +kernel
theorem dX0_addWeir_11 : decode cX0_addWeir 11 = .ok (.getfield 30, 3) := by decide +kernel
theorem dX0_addWeir_14 : decode cX0_addWeir 14 = .ok (.iconst 1, 1) := by decide +kernel
theorem dX0_addWeir_15 : decode cX0_addWeir 15 = .ok (.iadd, 1) := by decide +kernel
theorem dX0_addWeir_16 : decode cX0_addWeir 16 = .ok (.putfield 30, 3) := by decide +kernel
theorem dX0_addWeir_19 : decode cX0_addWeir 19 = .ok (.aload_n 0, 1) := by decide +kernel
theorem dX0_addWeir_20 : decode cX0_addWeir 20 = .ok (.getfield 30, 3) := by decide +kernel
theorem dX0_addWeir_23 : decode cX0_addWeir 23 = .ok (.ireturn, 1) := by decide +kernel
set_option maxRecDepth 20000 in
theorem ggX0_addNet_X2_put : GoodIn wsX0_addNet wsX2_put := goodIn_r _ [7, 8, 14] (by decide +kernel) (by decide +kernel)
set_option maxRecDepth 20000 in
theorem gX0_addNet_X2_put : GoodIn wsX0_addNet (wsV RX0 26 RX2 yX2_put wsX2_put) := goodIn_app (goodIn_of _ (by decide +kernel)) ggX0_addNet_X2_put
theorem dX0_addNet_0 : decode cX0_addNet 0 = .ok (.aload_n 0, 1) := by decide +kernel
theorem dX0_addNet_1 : decode cX0_addNet 1 = .ok (.getfield 23, 3) := by decide +kernel
theorem dX0_addNet_4 : decode cX0_addNet 4 = .ok (.iload_n 1, 1) := by decide +kernel
theorem dX0_addNet_5 : decode cX0_addNet 5 = .ok (.bipush 60, 2) := by decide +kernel
theorem dX0_addNet_7 : decode cX0_addNet 7 = .ok (.imul, 1) := by decide +kernel
theorem dX0_addNet_8 : decode cX0_addNet 8 = .ok (.iload_n 2, 1) := by decide +kernel
theorem dX0_addNet_9 : decode cX0_addNet 9 = .ok (.iadd, 1) := by decide +kernel
theorem dX0_addNet_10 : decode cX0_addNet 10 = .ok (.iconst 1, 1) := by decide +kernel
theorem dX0_addNet_11 : decode cX0_addNet 11 = .ok (.invokevirtual 26, 3) := by decide +kernel
theorem dX0_addNet_14 : decode cX0_addNet 14 = .ok (.aload_n 0, 1) := by decide +kernel
theorem dX0_addNet_15 : decode cX0_addNet 15 = .ok (.dup, 1) := by decide +kernel
theorem dX0_addNet_16 : decode cX0_addNet 16 = .ok (.getfield 34, 3) := by decide +kernel
theorem dX0_addNet_19 : decode cX0_addNet 19 = .ok (.iconst 1, 1) := by decide +kernel
theorem dX0_addNet_20 : decode cX0_addNet 20 = .ok (.iadd, 1) := by decide +kernel
theorem dX0_addNet_21 : decode cX0_addNet 21 = .ok (.putfield 34, 3) := by decide +kernel
theorem dX0_addNet_24 : decode cX0_addNet 24 = .ok (.aload_n 0, 1) := by decide +kernel
theorem dX0_addNet_25 : decode cX0_addNet 25 = .ok (.getfield 34, 3) := by decide +kernel
theorem dX0_addNet_28 : decode cX0_addNet 28 = .ok (.ireturn, 1) := by decide +kernel
set_option maxRecDepth 20000 in
theorem ggX0_hasNet_X2_get : GoodIn wsX0_hasNet wsX2_get := goodIn_r _ [6, 7, 13] (by decide +kernel) (by decide +kernel)
set_option maxRecDepth 20000 in
theorem gX0_hasNet_X2_get : GoodIn wsX0_hasNet (wsV RX0 37 RX2 yX2_get wsX2_get) := goodIn_app (goodIn_of _ (by decide +kernel)) ggX0_hasNet_X2_get
theorem dX0_hasNet_0 : decode cX0_hasNet 0 = .ok (.aload_n 0, 1) := by decide +kernel
theorem dX0_hasNet_1 : decode cX0_hasNet 1 = .ok (.getfield 23, 3) := by decide +kernel
theorem dX0_hasNet_4 : decode cX0_hasNet 4 = .ok (.iload_n 1, 1) := by decide +kernel
theorem dX0_hasNet_5 : decode cX0_hasNet 5 = .ok (.bipush 60, 2) := by decide +kernel
theorem dX0_hasNet_7 : decode cX0_hasNet 7 = .ok (.imul, 1) := by decide +kernel
theorem dX0_hasNet_8 : decode cX0_hasNet 8 = .ok (.iload_n 2, 1) := by decide +kernel
theorem dX0_hasNet_9 : decode cX0_hasNet 9 = .ok (.iadd, 1) := by decide +kernel
theorem dX0_hasNet_10 : decode cX0_hasNet 10 = .ok (.invokevirtual 37, 3) := by decide +kernel
theorem dX0_hasNet_13 : decode cX0_hasNet 13 = .ok (.iconst 1, 1) := by decide +kernel
theorem dX0_hasNet_14 : decode cX0_hasNet 14 = .ok (.if_icmp .ne 7, 3) := by decide +kernel
theorem dX0_hasNet_17 : decode cX0_hasNet 17 = .ok (.iconst 1, 1) := by decide +kernel
theorem dX0_hasNet_18 : decode cX0_hasNet 18 = .ok (.goto 4, 3) := by decide +kernel
theorem dX0_hasNet_21 : decode cX0_hasNet 21 = .ok (.iconst 0, 1) := by decide +kernel
theorem dX0_hasNet_22 : decode cX0_hasNet 22 = .ok (.ireturn, 1) := by decide +kernel
set_option maxRecDepth 20000 in
theorem ggX1_init_X2_init : GoodIn wsX1_init wsX2_init := goodIn_r _ [20, 21, 2, 3, 22, 23, 24] (by decide +kernel) (by decide +kernel)
set_option maxRecDepth 20000 in
theorem gX1_init_X2_init : GoodIn wsX1_init (wsX2_init) := ggX1_init_X2_init
theorem dX1_init_0 : decode cX1_init 0 = .ok (.aload_n 0, 1) := by decide +kernel
theorem dX1_init_1 : decode cX1_init 1 = .ok (.invokespecial 3, 3) := by decide +kernel
theorem dX1_init_4 : decode cX1_init 4 = .ok (.aload_n 0, 1) := by decide +kernel
theorem dX1_init_5 : decode cX1_init 5 = .ok (.new 9, 3) := by decide +kernel
theorem dX1_init_8 : decode cX1_init 8 = .ok (.dup, 1) := by decide +kernel
theorem dX1_init_9 : decode cX1_init 9 = .ok (.bipush 41, 2) := by decide +kernel
theorem dX1_init_11 : decode cX1_init 11 = .ok (.invokespecial 13, 3) := by decide +kernel
theorem dX1_init_14 : decode cX1_init 14 = .ok (.putfield 16, 3) := by decide +kernel
theorem dX1_init_17 : decode cX1_init 17 = .ok (.aload_n 0, 1) := by decide +kernel
theorem dX1_init_18 : decode cX1_init 18 = .ok (.new 9, 3) := by decide +kernel
theorem dX1_init_21 : decode cX1_init 21 = .ok (.dup, 1) := by decide +kernel
theorem dX1_init_22 : decode cX1_init 22 = .ok (.bipush 41, 2) := by decide +kernel
theorem dX1_init_24 : decode cX1_init 24 = .ok (.invokespecial 13, 3) := by decide +kernel
theorem dX1_init_27 : decode cX1_init 27 = .ok (.putfield 20, 3) := by decide +kernel
theorem dX1_init_30 : decode cX1_init 30 = .ok (.aload_n 0, 1) := by decide +kernel
theorem dX1_init_31 : decode cX1_init 31 = .ok (.new 9, 3) := by decide +kernel
theorem dX1_init_34 : decode cX1_init 34 = .ok (.dup, 1) := by decide +kernel
theorem dX1_init_35 : decode cX1_init 35 = .ok (.bipush 41, 2) := by decide +kernel
theorem dX1_init_37 : decode cX1_init 37 = .ok (.invokespecial 13, 3) := by decide +kernel
theorem dX1_init_40 : decode cX1_init 40 = .ok (.putfield 23, 3) := by decide +kernel
theorem dX1_init_43 : decode cX1_init 43 = .ok (.aload_n 0, 1) := by decide +kernel
theorem dX1_init_44 : decode cX1_init 44 = .ok (.new 9, 3) := by decide +kernel
theorem dX1_init_47 : decode cX1_init 47 = .ok (.dup, 1) := by decide +kernel
theorem dX1_init_48 : decode cX1_init 48 = .ok (.bipush 41, 2) := by decide +kernel
theorem dX1_init_50 : decode cX1_init 50 = .ok (.invokespecial 13, 3) := by decide +kernel
theorem dX1_init_53 : decode cX1_init 53 = .ok (.putfield 26, 3) := by decide +kernel
theorem dX1_init_56 : decode cX1_init 56 = .ok (.aload_n 0, 1) := by decide +kernel
theorem dX1_init_57 : decode cX1_init 57 = .ok (.new 9, 3) := by decide +kernel
theorem dX1_init_60 : decode cX1_init 60 = .ok (.dup, 1) := by decide +kernel
theorem dX1_init_61 : decode cX1_init 61 = .ok (.bipush 41, 2) := by decide +kernel
theorem dX1_init_63 : decode cX1_init 63 = .ok (.invokespecial 13, 3) := by decide +kernel
theorem dX1_init_66 : decode cX1_init 66 = .ok (.putfield 29, 3) := by decide +kernel
theorem dX1_init_69 : decode cX1_init 69 = .ok (.aload_n 0, 1) := by decide +kernel
theorem dX1_init_70 : decode cX1_init 70 = .ok (.new 9, 3) := by decide +kernel
theorem dX1_init_73 : decode cX1_init 73 = .ok (.dup, 1) := by decide +kernel
theorem dX1_init_74 : decode cX1_init 74 = .ok (.bipush 41, 2) := by decide +kernel
theorem dX1_init_76 : decode cX1_init 76 = .ok (.invokespecial 13, 3) := by decide +kernel
theorem dX1_init_79 : decode cX1_init 79 = .ok (.putfield 32, 3) := by decide +kernel
theorem dX1_init_82 : decode cX1_init 82 = .ok (.aload_n 0, 1) := by decide +kernel
theorem dX1_init_83 : decode cX1_init 83 = .ok (.new 9, 3) := by decide +kernel
theorem dX1_init_86 : decode cX1_init 86 = .ok (.dup, 1) := by decide +kernel
theorem dX1_init_87 : decode cX1_init 87 = .ok (.bipush 41, 2) := by decide +kernel
theorem dX1_init_89 : decode cX1_init 89 = .ok (.invokespecial 13, 3) := by decide +kernel
theorem dX1_init_92 : decode cX1_init 92 = .ok (.putfield 35, 3) := by decide +kernel
theorem dX1_init_95 : decode cX1_init 95 = .ok (.aload_n 0, 1) := by decide +kernel
theorem dX1_init_96 : decode cX1_init 96 = .ok (.new 9, 3) := by decide +kernel
theorem dX1_init_99 : decode cX1_init 99 = .ok (.dup, 1) := by decide +kernel
theorem dX1_init_100 : decode cX1_init 100 = .ok (.bipush 41, 2) := by decide +kernel
theorem dX1_init_102 : decode cX1_init 102 = .ok (.invokespecial 13, 3) := by decide +kernel
theorem dX1_init_105 : decode cX1_init 105 = .ok (.putfield 38, 3) := by decide +kernel
theorem dX1_init_108 : decode cX1_init 108 = .ok (.aload_n 0, 1) := by decide +kernel
theorem dX1_init_109 : decode cX1_init 109 = .ok (.new 9, 3) := by decide +kernel
theorem dX1_init_112 : decode cX1_init 112 = .ok (.dup, 1) := by decide +kernel
theorem dX1_init_113 : decode cX1_init 113 = .ok (.bipush 41, 2) := by decide +kernel
theorem dX1_init_115 : decode cX1_init 115 = .ok (.invokespecial 13, 3) := by decide +kernel
theorem dX1_init_118 : decode cX1_init 118 = .ok (.putfield 41, 3) := by decide +kernel
theorem dX1_init_121 : decode cX1_init 121 = .ok (.aload_n 0, 1) := by decide +kernel
theorem dX1_init_122 : decode cX1_init 122 = .ok (.new 9, 3) := by decide +kernel
theorem dX1_init_125 : decode cX1_init 125 = .ok (.dup, 1) := by decide +kernel
theorem dX1_init_126 : decode cX1_init 126 = .ok (.sipush 540, 3) := by decide +kernel
theorem dX1_init_129 : decode cX1_init 129 = .ok (.invokespecial 13, 3) := by decide +kernel
theorem dX1_init_132 : decode cX1_init 132 = .ok (.putfield 44, 3) := by decide +kernel
theorem dX1_init_135 : decode cX1_init 135 = .ok (.aload_n 0, 1) := by decide +kernel
theorem dX1_init_136 : decode cX1_init 136 = .ok (.new 9, 3) := by decide +kernel
theorem dX1_init_139 : decode cX1_init 139 = .ok (.dup, 1) := by decide +kernel
theorem dX1_init_140 : decode cX1_init 140 = .ok (.bipush 41, 2) := by decide +kernel
theorem dX1_init_142 : decode cX1_init 142 = .ok (.invokespecial 13, 3) := by decide +kernel
theorem dX1_init_145 : decode cX1_init 145 = .ok (.putfield 47, 3) := by decide +kernel
theorem dX1_init_148 : decode cX1_init 148 = .ok (.return_, 1) := by decide +kernel
set_option maxRecDepth 20000 in
theorem ggX1_copy_X2_copy : GoodIn wsX1_copy wsX2_copy := goodIn_r _ [17, 18, 19, 20, 21, 16, 22, 36] (by decide +kernel) (by decide +kernel)
set_option maxRecDepth 20000 in
theorem gX1_copy_X2_copy : GoodIn wsX1_copy (wsV RX1 50 RX2 yX2_copy wsX2_copy) := goodIn_app (goodIn_of _ (by decide +kernel)) ggX1_copy_X2_copy
theorem dX1_copy_0 : decode cX1_copy 0 = .ok (.aload_n 0, 1) := by decide +kernel
theorem dX1_copy_1 : decode cX1_copy 1 = .ok (.getfield 16, 3) := by decide +kernel
theorem dX1_copy_4 : decode cX1_copy 4 = .ok (.aload_n 1, 1) := by decide +kernel
theorem dX1_copy_5 : decode cX1_copy 5 = .ok (.getfield 16, 3) := by decide +kernel
theorem dX1_copy_8 : decode cX1_copy 8 = .ok (.invokevirtual 50, 3) := by decide +kernel
theorem dX1_copy_11 : decode cX1_copy 11 = .ok (.aload_n 0, 1) := by decide +kernel
theorem dX1_copy_12 : decode cX1_copy 12 = .ok (.getfield 20, 3) := by decide +kernel
theorem dX1_copy_15 : decode cX1_copy 15 = .ok (.aload_n 1, 1) := by decide +kernel
theorem dX1_copy_16 : decode cX1_copy 16 = .ok (.getfield 20, 3) := by decide +kernel
theorem dX1_copy_19 : decode cX1_copy 19 = .ok (.invokevirtual 50, 3) := by decide +kernel
theorem dX1_copy_22 : decode cX1_copy 22 = .ok (.aload_n 0, 1) := by decide +kernel
theorem dX1_copy_23 : decode cX1_copy 23 = .ok (.getfield 23, 3) := by decide +kernel
theorem dX1_copy_26 : decode cX1_copy 26 = .ok (.aload_n 1, 1) := by decide +kernel
theorem dX1_copy_27 : decode cX1_copy 27 = .ok (.getfield 23, 3) := by decide +kernel
theorem dX1_copy_30 : decode cX1_copy 30 = .ok (.invokevirtual 50, 3) := by decide +kernel
theorem dX1_copy_33 : decode cX1_copy 33 = .ok (.aload_n 0, 1) := by decide +kernel
theorem dX1_copy_34 : decode cX1_copy 34 = .ok (.getfield 26, 3) := by decide +kernel
theorem dX1_copy_37 : decode cX1_copy 37 = .ok (.aload_n 1, 1) := by decide +kernel
theorem dX1_copy_38 : decode cX1_copy 38 = .ok (.getfield 26, 3) := by decide +kernel
theorem dX1_copy_41 : decode cX1_copy 41 = .ok (.invokevirtual 50, 3) := by decide +kernel
theorem dX1_copy_44 : decode cX1_copy 44 = .ok (.aload_n 0, 1) := by decide +kernel
theorem dX1_copy_45 : decode cX1_copy 45 = .ok (.getfield 29, 3) := by decide +kernel
theorem dX1_copy_48 : decode cX1_copy 48 = .ok (.aload_n 1, 1) := by decide +kernel
theorem dX1_copy_49 : decode cX1_copy 49 = .ok (.getfield 29, 3) := by decide +kernel
theorem dX1_copy_52 : decode cX1_copy 52 = .ok (.invokevirtual 50, 3) := by decide +kernel
theorem dX1_copy_55 : decode cX1_copy 55 = .ok (.aload_n 0, 1) := by decide +kernel
theorem dX1_copy_56 : decode cX1_copy 56 = .ok (.getfield 32, 3) := by decide +kernel
theorem dX1_copy_59 : decode cX1_copy 59 = .ok (.aload_n 1, 1) := by decide +kernel
theorem dX1_copy_60 : decode cX1_copy 60 = .ok (.getfield 32, 3) := by decide +kernel
theorem dX1_copy_63 : decode cX1_copy 63 = .ok (.invokevirtual 50, 3) := by decide +kernel
theorem dX1_copy_66 : decode cX1_copy 66 = .ok (.aload_n 0, 1) := by decide +kernel
theorem dX1_copy_67 : decode cX1_copy 67 = .ok (.getfield 35, 3) := by decide +kernel
theorem dX1_copy_70 : decode cX1_copy 70 = .ok (.aload_n 1, 1) := by decide +kernel
theorem dX1_copy_71 : decode cX1_copy 71 = .ok (.getfield 35, 3) := by decide +kernel
theorem dX1_copy_74 : decode cX1_copy 74 = .ok (.invokevirtual 50, 3) := by decide +kernel
theorem dX1_copy_77 : decode cX1_copy 77 = .ok (.aload_n 0, 1) := by decide +kernel
theorem dX1_copy_78 : decode cX1_copy 78 = .ok (.getfield 38, 3) := by decide +kernel
theorem dX1_copy_81 : decode cX1_copy 81 = .ok (.aload_n 1, 1) := by decide +kernel
theorem dX1_copy_82 : decode cX1_copy 82 = .ok (.getfield 38, 3) := by decide +kernel
theorem dX1_copy_85 : decode cX1_copy 85 = .ok (.invokevirtual 50, 3) := by decide +kernel
theorem dX1_copy_88 : decode cX1_copy 88 = .ok (.aload_n 0, 1) := by decide +kernel
theorem dX1_copy_89 : decode cX1_copy 89 = .ok (.getfield 41, 3) := by decide +kernel
theorem dX1_copy_92 : decode cX1_copy 92 = .ok (.aload_n 1, 1) := by decide +kernel
theorem dX1_copy_93 : decode cX1_copy 93 = .ok (.getfield 41, 3) := by decide +kernel
theorem dX1_copy_96 : decode cX1_copy 96 = .ok (.invokevirtual 50, 3) := by decide +kernel
theorem dX1_copy_99 : decode cX1_copy 99 = .ok (.aload_n 0, 1) := by decide +kernel
theorem dX1_copy_100 : decode cX1_copy 100 = .ok (.getfield 44, 3) := by decide +kernel
theorem dX1_copy_103 : decode cX1_copy 103 = .ok (.aload_n 1, 1) := by decide +kernel
theorem dX1_copy_104 : decode cX1_copy 104 = .ok (.getfield 44, 3) := by decide +kernel
theorem dX1_copy_107 : decode cX1_copy 107 = .ok (.invokevirtual 50, 3) := by decide +kernel
theorem dX1_copy_110 : decode cX1_copy 110 = .ok (.aload_n 0, 1) := by decide +kernel
theorem dX1_copy_111 : decode cX1_copy 111 = .ok (.aload_n 1, 1) := by decide +kernel
theorem dX1_copy_112 : decode cX1_copy 112 = .ok (.getfield 54, 3) := by decide +kernel
theorem dX1_copy_115 : decode cX1_copy 115 = .ok (.putfield 54, 3) := by decide +kernel
theorem dX1_copy_118 : decode cX1_copy 118 = .ok (.aload_n 0, 1) := by decide +kernel
theorem dX1_copy_119 : decode cX1_copy 119 = .ok (.aload_n 1, 1) := by decide +kernel
theorem dX1_copy_120 : decode cX1_copy 120 = .ok (.getfield 58, 3) := by decide +kernel
theorem dX1_copy_123 : decode cX1_copy 123 = .ok (.putfield 58, 3) := by decide +kernel
theorem dX1_copy_126 : decode cX1_copy 126 = .ok (.return_, 1) := by decide +kernel
set_option maxRecDepth 20000 in
theorem ggX1_add_X2_put : GoodIn wsX1_add wsX2_put := goodIn_r _ [15, 16, 46] (by decide +kernel) (by decide +kernel)
set_option maxRecDepth 20000 in
theorem gX1_add_X2_put : GoodIn wsX1_add (wsV RX1 61 RX2 yX2_put wsX2_put) := goodIn_app (goodIn_of _ (by decide +kernel)) ggX1_add_X2_put
set_option maxRecDepth 20000 in
theorem ggX1_add_X3_waxOf : GoodIn wsX1_add wsX3_waxOf := goodIn_r _ [19] (by decide +kernel) (by decide +kernel)
set_option maxRecDepth 20000 in
theorem gX1_add_X3_waxOf_n65 : GoodIn wsX1_add (wsX3_waxOf) := ggX1_add_X3_waxOf
set_option maxRecDepth 20000 in
theorem ggX1_add_X1_crowdBy : GoodIn wsX1_add wsX1_crowdBy := goodIn_r _ [24, 4, 5, 2, 25, 26, 27, 28, 14, 29, 16, 30, 31, 23, 32, 11, 12, 13, 15, 33, 34, 35, 36, 37, 38, 39, 40, 41, 42, 43, 44, 45, 46] (by decide +kernel) (by decide +kernel)
set_option maxRecDepth 20000 in
theorem gX1_add_X1_crowdBy : GoodIn wsX1_add (wsV RX1 69 RX1 yX1_crowdBy wsX1_crowdBy) := goodIn_app (goodIn_of _ (by decide +kernel)) ggX1_add_X1_crowdBy
theorem dX1_add_0 : decode cX1_add 0 = .ok (.aload_n 0, 1) := by decide +kernel
theorem dX1_add_1 : decode cX1_add 1 = .ok (.getfield 54, 3) := by decide +kernel
theorem dX1_add_4 : decode cX1_add 4 = .ok (.bipush 41, 2) := by decide +kernel
theorem dX1_add_6 : decode cX1_add 6 = .ok (.if_icmp .lt 5, 3) := by decide +kernel
theorem dX1_add_9 : decode cX1_add 9 = .ok (.iconst (-1), 1) := by decide +kernel
theorem dX1_add_10 : decode cX1_add 10 = .ok (.ireturn, 1) := by decide +kernel
theorem dX1_add_11 : decode cX1_add 11 = .ok (.aload_n 0, 1) := by decide +kernel
theorem dX1_add_12 : decode cX1_add 12 = .ok (.getfield 54, 3) := by decide +kernel
theorem dX1_add_15 : decode cX1_add 15 = .ok (.istore 5, 2) := by decide +kernel
theorem dX1_add_17 : decode cX1_add 17 = .ok (.aload_n 0, 1) := by decide +kernel
theorem dX1_add_18 : decode cX1_add 18 = .ok (.dup, 1) := by decide +kernel
theorem dX1_add_19 : decode cX1_add 19 = .ok (.getfield 54, 3) := by decide +kernel
theorem dX1_add_22 : decode cX1_add 22 = .ok (.iconst 1, 1) := by decide +kernel
theorem dX1_add_23 : decode cX1_add 23 = .ok (.iadd, 1) := by decide +kernel
theorem dX1_add_24 : decode cX1_add 24 = .ok (.putfield 54, 3) := by decide +kernel
theorem dX1_add_27 : decode cX1_add 27 = .ok (.aload_n 0, 1) := by decide +kernel
theorem dX1_add_28 : decode cX1_add 28 = .ok (.getfield 16, 3) := by decide +kernel
theorem dX1_add_31 : decode cX1_add 31 = .ok (.iload 5, 2) := by decide +kernel
theorem dX1_add_33 : decode cX1_add 33 = .ok (.iload_n 1, 1) := by decide +kernel
theorem dX1_add_34 : decode cX1_add 34 = .ok (.invokevirtual 61, 3) := by decide +kernel
theorem dX1_add_37 : decode cX1_add 37 = .ok (.aload_n 0, 1) := by decide +kernel
theorem dX1_add_38 : decode cX1_add 38 = .ok (.getfield 20, 3) := by decide +kernel
theorem dX1_add_41 : decode cX1_add 41 = .ok (.iload 5, 2) := by decide +kernel
theorem dX1_add_43 : decode cX1_add 43 = .ok (.iload_n 2, 1) := by decide +kernel
theorem dX1_add_44 : decode cX1_add 44 = .ok (.invokevirtual 61, 3) := by decide +kernel
theorem dX1_add_47 : decode cX1_add 47 = .ok (.aload_n 0, 1) := by decide +kernel
theorem dX1_add_48 : decode cX1_add 48 = .ok (.getfield 23, 3) := by decide +kernel
theorem dX1_add_51 : decode cX1_add 51 = .ok (.iload 5, 2) := by decide +kernel
theorem dX1_add_53 : decode cX1_add 53 = .ok (.iload_n 3, 1) := by decide +kernel
theorem dX1_add_54 : decode cX1_add 54 = .ok (.invokevirtual 61, 3) := by decide +kernel
theorem dX1_add_57 : decode cX1_add 57 = .ok (.aload_n 0, 1) := by decide +kernel
theorem dX1_add_58 : decode cX1_add 58 = .ok (.getfield 26, 3) := by decide +kernel
theorem dX1_add_61 : decode cX1_add 61 = .ok (.iload 5, 2) := by decide +kernel
theorem dX1_add_63 : decode cX1_add 63 = .ok (.iload 4, 2) := by decide +kernel
theorem dX1_add_65 : decode cX1_add 65 = .ok (.invokevirtual 61, 3) := by decide +kernel
theorem dX1_add_68 : decode cX1_add 68 = .ok (.aload_n 0, 1) := by decide +kernel
theorem dX1_add_69 : decode cX1_add 69 = .ok (.getfield 29, 3) := by decide +kernel
theorem dX1_add_72 : decode cX1_add 72 = .ok (.iload 5, 2) := by decide +kernel
theorem dX1_add_74 : decode cX1_add 74 = .ok (.iload_n 1, 1) := by decide +kernel
theorem dX1_add_75 : decode cX1_add 75 = .ok (.invokestatic 65, 3) := by decide +kernel
theorem dX1_add_78 : decode cX1_add 78 = .ok (.invokevirtual 61, 3) := by decide +kernel
theorem dX1_add_81 : decode cX1_add 81 = .ok (.aload_n 0, 1) := by decide +kernel
theorem dX1_add_82 : decode cX1_add 82 = .ok (.getfield 32, 3) := by decide +kernel
theorem dX1_add_85 : decode cX1_add 85 = .ok (.iload 5, 2) := by decide +kernel
theorem dX1_add_87 : decode cX1_add 87 = .ok (.iconst 0, 1) := by decide +kernel
theorem dX1_add_88 : decode cX1_add 88 = .ok (.invokevirtual 61, 3) := by decide +kernel
theorem dX1_add_91 : decode cX1_add 91 = .ok (.aload_n 0, 1) := by decide +kernel
theorem dX1_add_92 : decode cX1_add 92 = .ok (.getfield 35, 3) := by decide +kernel
theorem dX1_add_95 : decode cX1_add 95 = .ok (.iload 5, 2) := by decide +kernel
theorem dX1_add_97 : decode cX1_add 97 = .ok (.iconst 1, 1) := by decide +kernel
theorem dX1_add_98 : decode cX1_add 98 = .ok (.invokevirtual 61, 3) := by decide +kernel
theorem dX1_add_101 : decode cX1_add 101 = .ok (.aload_n 0, 1) := by decide +kernel
theorem dX1_add_102 : decode cX1_add 102 = .ok (.getfield 38, 3) := by decide +kernel
theorem dX1_add_105 : decode cX1_add 105 = .ok (.iload 5, 2) := by decide +kernel
theorem dX1_add_107 : decode cX1_add 107 = .ok (.iconst 0, 1) := by decide +kernel
theorem dX1_add_108 : decode cX1_add 108 = .ok (.invokevirtual 61, 3) := by decide +kernel
theorem dX1_add_111 : decode cX1_add 111 = .ok (.aload_n 0, 1) := by decide +kernel
theorem dX1_add_112 : decode cX1_add 112 = .ok (.getfield 41, 3) := by decide +kernel
theorem dX1_add_115 : decode cX1_add 115 = .ok (.iload 5, 2) := by decide +kernel
theorem dX1_add_117 : decode cX1_add 117 = .ok (.iconst (-1), 1) := by decide +kernel
theorem dX1_add_118 : decode cX1_add 118 = .ok (.invokevirtual 61, 3) := by decide +kernel
theorem dX1_add_121 : decode cX1_add 121 = .ok (.aload_n 0, 1) := by decide +kernel
theorem dX1_add_122 : decode cX1_add 122 = .ok (.iload 5, 2) := by decide +kernel
theorem dX1_add_124 : decode cX1_add 124 = .ok (.iconst 1, 1) := by decide +kernel
theorem dX1_add_125 : decode cX1_add 125 = .ok (.invokevirtual 69, 3) := by decide +kernel
theorem dX1_add_128 : decode cX1_add 128 = .ok (.iload 5, 2) := by decide +kernel
theorem dX1_add_130 : decode cX1_add 130 = .ok (.ireturn, 1) := by decide +kernel
set_option maxRecDepth 20000 in
theorem ggX1_has_X3_isWithin : GoodIn wsX1_has wsX3_isWithin := goodIn_r _ [4] (by decide +kernel) (by decide +kernel)
set_option maxRecDepth 20000 in
theorem gX1_has_X3_isWithin_n72 : GoodIn wsX1_has (wsX3_isWithin) := ggX1_has_X3_isWithin
theorem dX1_has_0 : decode cX1_has 0 = .ok (.iload_n 1, 1) := by decide +kernel
theorem dX1_has_1 : decode cX1_has 1 = .ok (.iconst 0, 1) := by decide +kernel
theorem dX1_has_2 : decode cX1_has 2 = .ok (.aload_n 0, 1) := by decide +kernel
theorem dX1_has_3 : decode cX1_has 3 = .ok (.getfield 54, 3) := by decide +kernel
theorem dX1_has_6 : decode cX1_has 6 = .ok (.iconst 1, 1) := by decide +kernel
theorem dX1_has_7 : decode cX1_has 7 = .ok (.isub, 1) := by decide +kernel
theorem dX1_has_8 : decode cX1_has 8 = .ok (.invokestatic 72, 3) := by decide +kernel
theorem dX1_has_11 : decode cX1_has 11 = .ok (.ireturn, 1) := by decide +kernel
set_option maxRecDepth 20000 in
theorem ggX1_isAfloat_X1_has : GoodIn wsX1_isAfloat wsX1_has := goodIn_r _ [6, 7, 8, 9, 10, 17, 18, 19, 20, 21, 22, 23, 24, 25, 26, 27, 28, 29] (by decide +kernel) (by decide +kernel)
set_option maxRecDepth 20000 in
theorem gX1_isAfloat_X1_has : GoodIn wsX1_isAfloat (wsV RX1 76 RX1 yX1_has wsX1_has) := goodIn_app (goodIn_of _ (by decide +kernel)) ggX1_isAfloat_X1_has
set_option maxRecDepth 20000 in
theorem ggX1_isAfloat_X2_get : GoodIn wsX1_isAfloat wsX2_get := goodIn_r _ [15, 16, 30] (by decide +kernel) (by decide +kernel)
set_option maxRecDepth 20000 in
theorem gX1_isAfloat_X2_get : GoodIn wsX1_isAfloat (wsV RX1 80 RX2 yX2_get wsX2_get) := goodIn_app (goodIn_of _ (by decide +kernel)) ggX1_isAfloat_X2_get
theorem dX1_isAfloat_0 : decode cX1_isAfloat 0 = .ok (.aload_n 0, 1) := by decide +kernel
theorem dX1_isAfloat_1 : decode cX1_isAfloat 1 = .ok (.iload_n 1, 1) := by decide +kernel
theorem dX1_isAfloat_2 : decode cX1_isAfloat 2 = .ok (.invokevirtual 76, 3) := by decide +kernel
theorem dX1_isAfloat_5 : decode cX1_isAfloat 5 = .ok (.ifCond .eq 18, 3) := by decide +kernel
theorem dX1_isAfloat_8 : decode cX1_isAfloat 8 = .ok (.aload_n 0, 1) := by decide +kernel
theorem dX1_isAfloat_9 : decode cX1_isAfloat 9 = .ok (.getfield 38, 3) := by decide +kernel
theorem dX1_isAfloat_12 : decode cX1_isAfloat 12 = .ok (.iload_n 1, 1) := by decide +kernel
theorem dX1_isAfloat_13 : decode cX1_isAfloat 13 = .ok (.invokevirtual 80, 3) := by decide +kernel
theorem dX1_isAfloat_16 : decode cX1_isAfloat 16 = .ok (.ifCond .ne 7, 3) := by decide +kernel
theorem dX1_isAfloat_19 : decode cX1_isAfloat 19 = .ok (.iconst 1, 1) := by decide +kernel
theorem dX1_isAfloat_20 : decode cX1_isAfloat 20 = .ok (.goto 4, 3) := by decide +kernel
theorem dX1_isAfloat_23 : decode cX1_isAfloat 23 = .ok (.iconst 0, 1) := by decide +kernel
theorem dX1_isAfloat_24 : decode cX1_isAfloat 24 = .ok (.ireturn, 1) := by decide +kernel
set_option maxRecDepth 20000 in
theorem ggX1_isBurning_X1_has : GoodIn wsX1_isBurning wsX1_has := goodIn_r _ [6, 7, 8, 9, 10, 17, 18, 19, 20, 21, 22, 23, 24, 25, 26, 27, 28, 29] (by decide +kernel) (by decide +kernel)
set_option maxRecDepth 20000 in
theorem gX1_isBurning_X1_has : GoodIn wsX1_isBurning (wsV RX1 76 RX1 yX1_has wsX1_has) := goodIn_app (goodIn_of _ (by decide +kernel)) ggX1_isBurning_X1_has
set_option maxRecDepth 20000 in
theorem ggX1_isBurning_X2_get : GoodIn wsX1_isBurning wsX2_get := goodIn_r _ [15, 16, 30] (by decide +kernel) (by decide +kernel)
set_option maxRecDepth 20000 in
theorem gX1_isBurning_X2_get : GoodIn wsX1_isBurning (wsV RX1 80 RX2 yX2_get wsX2_get) := goodIn_app (goodIn_of _ (by decide +kernel)) ggX1_isBurning_X2_get
theorem dX1_isBurning_0 : decode cX1_isBurning 0 = .ok (.aload_n 0, 1) := by decide +kernel
theorem dX1_isBurning_1 : decode cX1_isBurning 1 = .ok (.iload_n 1, 1) := by decide +kernel
theorem dX1_isBurning_2 : decode cX1_isBurning 2 = .ok (.invokevirtual 76, 3) := by decide +kernel
theorem dX1_isBurning_5 : decode cX1_isBurning 5 = .ok (.ifCond .eq 19, 3) := by decide +kernel
theorem dX1_isBurning_8 : decode cX1_isBurning 8 = .ok (.aload_n 0, 1) := by decide +kernel
theorem dX1_isBurning_9 : decode cX1_isBurning 9 = .ok (.getfield 35, 3) := by decide +kernel
theorem dX1_isBurning_12 : decode cX1_isBurning 12 = .ok (.iload_n 1, 1) := by decide +kernel
theorem dX1_isBurning_13 : decode cX1_isBurning 13 = .ok (.invokevirtual 80, 3) := by decide +kernel
theorem dX1_isBurning_16 : decode cX1_isBurning 16 = .ok (.iconst 1, 1) := by decide +kernel
theorem dX1_isBurning_17 : decode cX1_isBurning 17 = .ok (.if_icmp .ne 7, 3) := by decide +kernel
theorem dX1_isBurning_20 : decode cX1_isBurning 20 = .ok (.iconst 1, 1) := by decide +kernel
theorem dX1_isBurning_21 : decode cX1_isBurning 21 = .ok (.goto 4, 3) := by decide +kernel
theorem dX1_isBurning_24 : decode cX1_isBurning 24 = .ok (.iconst 0, 1) := by decide +kernel
theorem dX1_isBurning_25 : decode cX1_isBurning 25 = .ok (.ireturn, 1) := by decide +kernel
set_option maxRecDepth 20000 in
theorem ggX1_isSoaked_X2_get : GoodIn wsX1_isSoaked wsX2_get := goodIn_r _ [7, 8, 25] (by decide +kernel) (by decide +kernel)
set_option maxRecDepth 20000 in
theorem gX1_isSoaked_X2_get : GoodIn wsX1_isSoaked (wsV RX1 80 RX2 yX2_get wsX2_get) := goodIn_app (goodIn_of _ (by decide +kernel)) ggX1_isSoaked_X2_get
set_option maxRecDepth 20000 in
theorem ggX1_isSoaked_X3_sprayTakenBy : GoodIn wsX1_isSoaked wsX3_sprayTakenBy := goodIn_r _ [11] (by decide +kernel) (by decide +kernel)
set_option maxRecDepth 20000 in
theorem gX1_isSoaked_X3_sprayTakenBy_n83 : GoodIn wsX1_isSoaked (wsX3_sprayTakenBy) := ggX1_isSoaked_X3_sprayTakenBy
theorem dX1_isSoaked_0 : decode cX1_isSoaked 0 = .ok (.aload_n 0, 1) := by decide +kernel
theorem dX1_isSoaked_1 : decode cX1_isSoaked 1 = .ok (.getfield 32, 3) := by decide +kernel
theorem dX1_isSoaked_4 : decode cX1_isSoaked 4 = .ok (.iload_n 1, 1) := by decide +kernel
theorem dX1_isSoaked_5 : decode cX1_isSoaked 5 = .ok (.invokevirtual 80, 3) := by decide +kernel
theorem dX1_isSoaked_8 : decode cX1_isSoaked 8 = .ok (.aload_n 0, 1) := by decide +kernel
theorem dX1_isSoaked_9 : decode cX1_isSoaked 9 = .ok (.getfield 16, 3) := by decide +kernel
theorem dX1_isSoaked_12 : decode cX1_isSoaked 12 = .ok (.iload_n 1, 1) := by decide +kernel
theorem dX1_isSoaked_13 : decode cX1_isSoaked 13 = .ok (.invokevirtual 80, 3) := by decide +kernel
theorem dX1_isSoaked_16 : decode cX1_isSoaked 16 = .ok (.invokestatic 83, 3) := by decide +kernel
theorem dX1_isSoaked_19 : decode cX1_isSoaked 19 = .ok (.if_icmp .le 7, 3) := by decide +kernel
theorem dX1_isSoaked_22 : decode cX1_isSoaked 22 = .ok (.iconst 1, 1) := by decide +kernel
theorem dX1_isSoaked_23 : decode cX1_isSoaked 23 = .ok (.goto 4, 3) := by decide +kernel
theorem dX1_isSoaked_26 : decode cX1_isSoaked 26 = .ok (.iconst 0, 1) := by decide +kernel
theorem dX1_isSoaked_27 : decode cX1_isSoaked 27 = .ok (.ireturn, 1) := by decide +kernel
set_option maxRecDepth 20000 in
theorem ggX1_canBeLit_X1_isBurning : GoodIn wsX1_canBeLit wsX1_isBurning := goodIn_r _ [6, 7, 8, 9, 10, 5, 11, 12, 13, 14, 15, 16, 17, 18, 19, 20, 21, 30, 31, 32, 33, 34, 35, 36, 37, 38, 39, 40, 41, 42, 43] (by decide +kernel) (by decide +kernel)
set_option maxRecDepth 20000 in
theorem gX1_canBeLit_X1_isBurning : GoodIn wsX1_canBeLit (wsV RX1 86 RX1 yX1_isBurning wsX1_isBurning) := goodIn_app (goodIn_of _ (by decide +kernel)) ggX1_canBeLit_X1_isBurning
set_option maxRecDepth 20000 in
theorem ggX1_canBeLit_X1_isSoaked : GoodIn wsX1_canBeLit wsX1_isSoaked := goodIn_r _ [25, 26, 27, 16, 17, 18, 19, 20, 21, 28, 14, 29, 30, 31, 32, 33, 34, 35, 36, 37, 38, 39, 40, 41, 42, 43] (by decide +kernel) (by decide +kernel)
set_option maxRecDepth 20000 in
theorem gX1_canBeLit_X1_isSoaked : GoodIn wsX1_canBeLit (wsV RX1 89 RX1 yX1_isSoaked wsX1_isSoaked) := goodIn_app (goodIn_of _ (by decide +kernel)) ggX1_canBeLit_X1_isSoaked
set_option maxRecDepth 20000 in
theorem ggX1_canBeLit_X2_get : GoodIn wsX1_canBeLit wsX2_get := goodIn_r _ [20, 21, 43] (by decide +kernel) (by decide +kernel)
set_option maxRecDepth 20000 in
theorem gX1_canBeLit_X2_get : GoodIn wsX1_canBeLit (wsV RX1 80 RX2 yX2_get wsX2_get) := goodIn_app (goodIn_of _ (by decide +kernel)) ggX1_canBeLit_X2_get
theorem dX1_canBeLit_0 : decode cX1_canBeLit 0 = .ok (.aload_n 0, 1) := by decide +kernel
theorem dX1_canBeLit_1 : decode cX1_canBeLit 1 = .ok (.iload_n 1, 1) := by decide +kernel
theorem dX1_canBeLit_2 : decode cX1_canBeLit 2 = .ok (.invokevirtual 86, 3) := by decide +kernel
theorem dX1_canBeLit_5 : decode cX1_canBeLit 5 = .ok (.ifCond .ne 26, 3) := by decide +kernel
theorem dX1_canBeLit_8 : decode cX1_canBeLit 8 = .ok (.aload_n 0, 1) := by decide +kernel
theorem dX1_canBeLit_9 : decode cX1_canBeLit 9 = .ok (.iload_n 1, 1) := by decide +kernel
theorem dX1_canBeLit_10 : decode cX1_canBeLit 10 = .ok (.invokevirtual 89, 3) := by decide +kernel
theorem dX1_canBeLit_13 : decode cX1_canBeLit 13 = .ok (.ifCond .ne 18, 3) := by decide +kernel
theorem dX1_canBeLit_16 : decode cX1_canBeLit 16 = .ok (.aload_n 0, 1) := by decide +kernel
theorem dX1_canBeLit_17 : decode cX1_canBeLit 17 = .ok (.getfield 29, 3) := by decide +kernel
theorem dX1_canBeLit_20 : decode cX1_canBeLit 20 = .ok (.iload_n 1, 1) := by decide +kernel
theorem dX1_canBeLit_21 : decode cX1_canBeLit 21 = .ok (.invokevirtual 80, 3) := by decide +kernel
theorem dX1_canBeLit_24 : decode cX1_canBeLit 24 = .ok (.ifCond .le 7, 3) := by decide +kernel
theorem dX1_canBeLit_27 : decode cX1_canBeLit 27 = .ok (.iconst 1, 1) := by decide +kernel
theorem dX1_canBeLit_28 : decode cX1_canBeLit 28 = .ok (.goto 4, 3) := by decide +kernel
theorem dX1_canBeLit_31 : decode cX1_canBeLit 31 = .ok (.iconst 0, 1) := by decide +kernel
theorem dX1_canBeLit_32 : decode cX1_canBeLit 32 = .ok (.ireturn, 1) := by decide +kernel
set_option maxRecDepth 20000 in
theorem ggX1_moveTo_X1_crowdBy : GoodIn wsX1_moveTo wsX1_crowdBy := goodIn_r _ [7, 1, 2, 8, 9, 10, 11, 12, 13, 14, 15, 16, 17, 6, 18, 19, 20, 21, 22, 23, 24, 25, 26, 27, 28, 29, 30, 31, 32, 33, 34, 35, 36] (by decide +kernel) (by decide +kernel)
set_option maxRecDepth 20000 in
theorem gX1_moveTo_X1_crowdBy : GoodIn wsX1_moveTo (wsV RX1 69 RX1 yX1_crowdBy wsX1_crowdBy) := goodIn_app (goodIn_of _ (by decide +kernel)) ggX1_moveTo_X1_crowdBy
set_option maxRecDepth 20000 in
theorem ggX1_moveTo_X2_put : GoodIn wsX1_moveTo wsX2_put := goodIn_r _ [22, 15, 36] (by decide +kernel) (by decide +kernel)
set_option maxRecDepth 20000 in
theorem gX1_moveTo_X2_put : GoodIn wsX1_moveTo (wsV RX1 61 RX2 yX2_put wsX2_put) := goodIn_app (goodIn_of _ (by decide +kernel)) ggX1_moveTo_X2_put
theorem dX1_moveTo_0 : decode cX1_moveTo 0 = .ok (.aload_n 0, 1) := by decide +kernel
theorem dX1_moveTo_1 : decode cX1_moveTo 1 = .ok (.iload_n 1, 1) := by decide +kernel
theorem dX1_moveTo_2 : decode cX1_moveTo 2 = .ok (.iconst (-1), 1) := by decide +kernel
theorem dX1_moveTo_3 : decode cX1_moveTo 3 = .ok (.invokevirtual 69, 3) := by decide +kernel
theorem dX1_moveTo_6 : decode cX1_moveTo 6 = .ok (.aload_n 0, 1) := by decide +kernel
theorem dX1_moveTo_7 : decode cX1_moveTo 7 = .ok (.getfield 23, 3) := by decide +kernel
theorem dX1_moveTo_10 : decode cX1_moveTo 10 = .ok (.iload_n 1, 1) := by decide +kernel
theorem dX1_moveTo_11 : decode cX1_moveTo 11 = .ok (.iload_n 2, 1) := by decide +kernel
theorem dX1_moveTo_12 : decode cX1_moveTo 12 = .ok (.invokevirtual 61, 3) := by decide +kernel
theorem dX1_moveTo_15 : decode cX1_moveTo 15 = .ok (.aload_n 0, 1) := by decide +kernel
theorem dX1_moveTo_16 : decode cX1_moveTo 16 = .ok (.getfield 26, 3) := by decide +kernel
theorem dX1_moveTo_19 : decode cX1_moveTo 19 = .ok (.iload_n 1, 1) := by decide +kernel
theorem dX1_moveTo_20 : decode cX1_moveTo 20 = .ok (.iload_n 3, 1) := by decide +kernel
theorem dX1_moveTo_21 : decode cX1_moveTo 21 = .ok (.invokevirtual 61, 3) := by decide +kernel
theorem dX1_moveTo_24 : decode cX1_moveTo 24 = .ok (.aload_n 0, 1) := by decide +kernel
theorem dX1_moveTo_25 : decode cX1_moveTo 25 = .ok (.iload_n 1, 1) := by decide +kernel
theorem dX1_moveTo_26 : decode cX1_moveTo 26 = .ok (.iconst 1, 1) := by decide +kernel
theorem dX1_moveTo_27 : decode cX1_moveTo 27 = .ok (.invokevirtual 69, 3) := by decide +kernel
theorem dX1_moveTo_30 : decode cX1_moveTo 30 = .ok (.return_, 1) := by decide +kernel
set_option maxRecDepth 20000 in
theorem ggX1_fact_X2_get : GoodIn wsX1_fact wsX2_get := goodIn_r _ [14, 15, 29] (by decide +kernel) (by decide +kernel)
set_option maxRecDepth 20000 in
theorem gX1_fact_X2_get : GoodIn wsX1_fact (wsV RX1 80 RX2 yX2_get wsX2_get) := goodIn_app (goodIn_of _ (by decide +kernel)) ggX1_fact_X2_get
theorem dX1_fact_0 : decode cX1_fact 0 = .ok (.iload_n 2, 1) := by decide +kernel
theorem dX1_fact_1 : decode cX1_fact 1 = .ok (.tableswitch 119 0 7 #[47, 56, 65, 74, 83, 92, 101, 110], 47) := by decide +kernel
theorem dX1_fact_48 : decode cX1_fact 48 = .ok (.aload_n 0, 1) := by decide +kernel
theorem dX1_fact_49 : decode cX1_fact 49 = .ok (.getfield 16, 3) := by decide +kernel
theorem dX1_fact_52 : decode cX1_fact 52 = .ok (.iload_n 1, 1) := by decide +kernel
theorem dX1_fact_53 : decode cX1_fact 53 = .ok (.invokevirtual 80, 3) := by decide +kernel
theorem dX1_fact_56 : decode cX1_fact 56 = .ok (.ireturn, 1) := by decide +kernel
theorem dX1_fact_57 : decode cX1_fact 57 = .ok (.aload_n 0, 1) := by decide +kernel
theorem dX1_fact_58 : decode cX1_fact 58 = .ok (.getfield 20, 3) := by decide +kernel
theorem dX1_fact_61 : decode cX1_fact 61 = .ok (.iload_n 1, 1) := by decide +kernel
theorem dX1_fact_62 : decode cX1_fact 62 = .ok (.invokevirtual 80, 3) := by decide +kernel
theorem dX1_fact_65 : decode cX1_fact 65 = .ok (.ireturn, 1) := by decide +kernel
theorem dX1_fact_66 : decode cX1_fact 66 = .ok (.aload_n 0, 1) := by decide +kernel
theorem dX1_fact_67 : decode cX1_fact 67 = .ok (.getfield 23, 3) := by decide +kernel
theorem dX1_fact_70 : decode cX1_fact 70 = .ok (.iload_n 1, 1) := by decide +kernel
theorem dX1_fact_71 : decode cX1_fact 71 = .ok (.invokevirtual 80, 3) := by decide +kernel
theorem dX1_fact_74 : decode cX1_fact 74 = .ok (.ireturn, 1) := by decide +kernel
theorem dX1_fact_75 : decode cX1_fact 75 = .ok (.aload_n 0, 1) := by decide +kernel
theorem dX1_fact_76 : decode cX1_fact 76 = .ok (.getfield 26, 3) := by decide +kernel
theorem dX1_fact_79 : decode cX1_fact 79 = .ok (.iload_n 1, 1) := by decide +kernel
theorem dX1_fact_80 : decode cX1_fact 80 = .ok (.invokevirtual 80, 3) := by decide +kernel
theorem dX1_fact_83 : decode cX1_fact 83 = .ok (.ireturn, 1) := by decide +kernel
theorem dX1_fact_84 : decode cX1_fact 84 = .ok (.aload_n 0, 1) := by decide +kernel
theorem dX1_fact_85 : decode cX1_fact 85 = .ok (.getfield 29, 3) := by decide +kernel
theorem dX1_fact_88 : decode cX1_fact 88 = .ok (.iload_n 1, 1) := by decide +kernel
theorem dX1_fact_89 : decode cX1_fact 89 = .ok (.invokevirtual 80, 3) := by decide +kernel
theorem dX1_fact_92 : decode cX1_fact 92 = .ok (.ireturn, 1) := by decide +kernel
theorem dX1_fact_93 : decode cX1_fact 93 = .ok (.aload_n 0, 1) := by decide +kernel
theorem dX1_fact_94 : decode cX1_fact 94 = .ok (.getfield 32, 3) := by decide +kernel
theorem dX1_fact_97 : decode cX1_fact 97 = .ok (.iload_n 1, 1) := by decide +kernel
theorem dX1_fact_98 : decode cX1_fact 98 = .ok (.invokevirtual 80, 3) := by decide +kernel
theorem dX1_fact_101 : decode cX1_fact 101 = .ok (.ireturn, 1) := by decide +kernel
theorem dX1_fact_102 : decode cX1_fact 102 = .ok (.aload_n 0, 1) := by decide +kernel
theorem dX1_fact_103 : decode cX1_fact 103 = .ok (.getfield 35, 3) := by decide +kernel
theorem dX1_fact_106 : decode cX1_fact 106 = .ok (.iload_n 1, 1) := by decide +kernel
theorem dX1_fact_107 : decode cX1_fact 107 = .ok (.invokevirtual 80, 3) := by decide +kernel
theorem dX1_fact_110 : decode cX1_fact 110 = .ok (.ireturn, 1) := by decide +kernel
theorem dX1_fact_111 : decode cX1_fact 111 = .ok (.aload_n 0, 1) := by decide +kernel
theorem dX1_fact_112 : decode cX1_fact 112 = .ok (.getfield 38, 3) := by decide +kernel
theorem dX1_fact_115 : decode cX1_fact 115 = .ok (.iload_n 1, 1) := by decide +kernel
theorem dX1_fact_116 : decode cX1_fact 116 = .ok (.invokevirtual 80, 3) := by decide +kernel
theorem dX1_fact_119 : decode cX1_fact 119 = .ok (.ireturn, 1) := by decide +kernel
theorem dX1_fact_120 : decode cX1_fact 120 = .ok (.aload_n 0, 1) := by decide +kernel
theorem dX1_fact_121 : decode cX1_fact 121 = .ok (.getfield 41, 3) := by decide +kernel
theorem dX1_fact_124 : decode cX1_fact 124 = .ok (.iload_n 1, 1) := by decide +kernel
theorem dX1_fact_125 : decode cX1_fact 125 = .ok (.invokevirtual 80, 3) := by decide +kernel
theorem dX1_fact_128 : decode cX1_fact 128 = .ok (.ireturn, 1) := by decide +kernel
set_option maxRecDepth 20000 in
theorem ggX1_floatingAt_X1_cell : GoodIn wsX1_floatingAt wsX1_cell := goodIn_r _ [5] (by decide +kernel) (by decide +kernel)
set_option maxRecDepth 20000 in
theorem gX1_floatingAt_X1_cell : GoodIn wsX1_floatingAt (va_wsS RX1 92 yX1_cell wsX1_cell) := goodIn_app (goodIn_of _ (by decide +kernel)) ggX1_floatingAt_X1_cell
set_option maxRecDepth 20000 in
theorem ggX1_floatingAt_X2_get : GoodIn wsX1_floatingAt wsX2_get := goodIn_r _ [10, 11, 25] (by decide +kernel) (by decide +kernel)
set_option maxRecDepth 20000 in
theorem gX1_floatingAt_X2_get : GoodIn wsX1_floatingAt (wsV RX1 80 RX2 yX2_get wsX2_get) := goodIn_app (goodIn_of _ (by decide +kernel)) ggX1_floatingAt_X2_get
theorem dX1_floatingAt_0 : decode cX1_floatingAt 0 = .ok (.iconst 0, 1) := by decide +kernel
theorem dX1_floatingAt_1 : decode cX1_floatingAt 1 = .ok (.istore_n 3, 1) := by decide +kernel
theorem dX1_floatingAt_2 : decode cX1_floatingAt 2 = .ok (.iconst 0, 1) := by decide +kernel
theorem dX1_floatingAt_3 : decode cX1_floatingAt 3 = .ok (.istore 4, 2) := by decide +kernel
theorem dX1_floatingAt_5 : decode cX1_floatingAt 5 = .ok (.iload 4, 2) := by decide +kernel
theorem dX1_floatingAt_7 : decode cX1_floatingAt 7 = .ok (.iconst 3, 1) := by decide +kernel
theorem dX1_floatingAt_8 : decode cX1_floatingAt 8 = .ok (.if_icmp .ge 26, 3) := by decide +kernel
theorem dX1_floatingAt_11 : decode cX1_floatingAt 11 = .ok (.iload_n 3, 1) := by decide +kernel
theorem dX1_floatingAt_12 : decode cX1_floatingAt 12 = .ok (.aload_n 0, 1) := by decide +kernel
theorem dX1_floatingAt_13 : decode cX1_floatingAt 13 = .ok (.getfield 44, 3) := by decide +kernel
theorem dX1_floatingAt_16 : decode cX1_floatingAt 16 = .ok (.iload_n 1, 1) := by decide +kernel
theorem dX1_floatingAt_17 : decode cX1_floatingAt 17 = .ok (.iload_n 2, 1) := by decide +kernel
theorem dX1_floatingAt_18 : decode cX1_floatingAt 18 = .ok (.iload 4, 2) := by decide +kernel
theorem dX1_floatingAt_20 : decode cX1_floatingAt 20 = .ok (.invokestatic 92, 3) := by decide +kernel
theorem dX1_floatingAt_23 : decode cX1_floatingAt 23 = .ok (.invokevirtual 80, 3) := by decide +kernel
theorem dX1_floatingAt_26 : decode cX1_floatingAt 26 = .ok (.iadd, 1) := by decide +kernel
theorem dX1_floatingAt_27 : decode cX1_floatingAt 27 = .ok (.istore_n 3, 1) := by decide +kernel
theorem dX1_floatingAt_28 : decode cX1_floatingAt 28 = .ok (.iinc 4 1, 3) := by decide +kernel
theorem dX1_floatingAt_31 : decode cX1_floatingAt 31 = .ok (.goto (-26), 3) := by decide +kernel
theorem dX1_floatingAt_34 : decode cX1_floatingAt 34 = .ok (.iload_n 3, 1) := by decide +kernel
theorem dX1_floatingAt_35 : decode cX1_floatingAt 35 = .ok (.ireturn, 1) := by decide +kernel
set_option maxRecDepth 20000 in
theorem ggX1_caughtAt_X2_get : GoodIn wsX1_caughtAt wsX2_get := goodIn_r _ [9, 10, 24] (by decide +kernel) (by decide +kernel)
set_option maxRecDepth 20000 in
theorem gX1_caughtAt_X2_get : GoodIn wsX1_caughtAt (wsV RX1 80 RX2 yX2_get wsX2_get) := goodIn_app (goodIn_of _ (by decide +kernel)) ggX1_caughtAt_X2_get
theorem dX1_caughtAt_0 : decode cX1_caughtAt 0 = .ok (.iconst 0, 1) := by decide +kernel
theorem dX1_caughtAt_1 : decode cX1_caughtAt 1 = .ok (.istore_n 3, 1) := by decide +kernel
theorem dX1_caughtAt_2 : decode cX1_caughtAt 2 = .ok (.iconst 0, 1) := by decide +kernel
theorem dX1_caughtAt_3 : decode cX1_caughtAt 3 = .ok (.istore 4, 2) := by decide +kernel
theorem dX1_caughtAt_5 : decode cX1_caughtAt 5 = .ok (.iload 4, 2) := by decide +kernel
theorem dX1_caughtAt_7 : decode cX1_caughtAt 7 = .ok (.aload_n 0, 1) := by decide +kernel
theorem dX1_caughtAt_8 : decode cX1_caughtAt 8 = .ok (.getfield 54, 3) := by decide +kernel
theorem dX1_caughtAt_11 : decode cX1_caughtAt 11 = .ok (.if_icmp .ge 51, 3) := by decide +kernel
theorem dX1_caughtAt_14 : decode cX1_caughtAt 14 = .ok (.aload_n 0, 1) := by decide +kernel
theorem dX1_caughtAt_15 : decode cX1_caughtAt 15 = .ok (.getfield 38, 3) := by decide +kernel
theorem dX1_caughtAt_18 : decode cX1_caughtAt 18 = .ok (.iload 4, 2) := by decide +kernel
theorem dX1_caughtAt_20 : decode cX1_caughtAt 20 = .ok (.invokevirtual 80, 3) := by decide +kernel
theorem dX1_caughtAt_23 : decode cX1_caughtAt 23 = .ok (.iconst 1, 1) := by decide +kernel
theorem dX1_caughtAt_24 : decode cX1_caughtAt 24 = .ok (.if_icmp .ne 32, 3) := by decide +kernel
theorem dX1_caughtAt_27 : decode cX1_caughtAt 27 = .ok (.aload_n 0, 1) := by decide +kernel
theorem dX1_caughtAt_28 : decode cX1_caughtAt 28 = .ok (.getfield 23, 3) := by decide +kernel
theorem dX1_caughtAt_31 : decode cX1_caughtAt 31 = .ok (.iload 4, 2) := by decide +kernel
theorem dX1_caughtAt_33 : decode cX1_caughtAt 33 = .ok (.invokevirtual 80, 3) := by decide +kernel
theorem dX1_caughtAt_36 : decode cX1_caughtAt 36 = .ok (.iload_n 1, 1) := by decide +kernel
theorem dX1_caughtAt_37 : decode cX1_caughtAt 37 = .ok (.if_icmp .ne 19, 3) := by decide +kernel
theorem dX1_caughtAt_40 : decode cX1_caughtAt 40 = .ok (.aload_n 0, 1) := by decide +kernel
theorem dX1_caughtAt_41 : decode cX1_caughtAt 41 = .ok (.getfield 26, 3) := by decide +kernel
theorem dX1_caughtAt_44 : decode cX1_caughtAt 44 = .ok (.iload 4, 2) := by decide +kernel
theorem dX1_caughtAt_46 : decode cX1_caughtAt 46 = .ok (.invokevirtual 80, 3) := by decide +kernel
theorem dX1_caughtAt_49 : decode cX1_caughtAt 49 = .ok (.iload_n 2, 1) := by decide +kernel
theorem dX1_caughtAt_50 : decode cX1_caughtAt 50 = .ok (.if_icmp .ne 6, 3) := by decide +kernel
theorem dX1_caughtAt_53 : decode cX1_caughtAt 53 = .ok (.iinc 3 1, 3) := by decide +kernel
theorem dX1_caughtAt_56 : decode cX1_caughtAt 56 = .ok (.iinc 4 1, 3) := by decide +kernel
theorem dX1_caughtAt_59 : decode cX1_caughtAt 59 = .ok (.goto (-54), 3) := by decide +kernel
theorem dX1_caughtAt_62 : decode cX1_caughtAt 62 = .ok (.iload_n 3, 1) := by decide +kernel
theorem dX1_caughtAt_63 : decode cX1_caughtAt 63 = .ok (.ireturn, 1) := by decide +kernel
set_option maxRecDepth 20000 in
theorem ggX1_tally_X1_share : GoodIn wsX1_tally wsX1_share := goodIn_r _ [6, 7, 8, 9, 10, 11, 12, 13, 14, 15, 16, 17, 18, 19, 20, 21, 22, 23, 24, 25, 26, 27, 28, 29] (by decide +kernel) (by decide +kernel)
set_option maxRecDepth 20000 in
theorem gX1_tally_X1_share : GoodIn wsX1_tally (wsV RX1 96 RX1 yX1_share wsX1_share) := goodIn_app (goodIn_of _ (by decide +kernel)) ggX1_tally_X1_share
theorem dX1_tally_0 : decode cX1_tally 0 = .ok (.iconst 0, 1) := by decide +kernel
theorem dX1_tally_1 : decode cX1_tally 1 = .ok (.istore_n 2, 1) := by decide +kernel
theorem dX1_tally_2 : decode cX1_tally 2 = .ok (.iconst 0, 1) := by decide +kernel
theorem dX1_tally_3 : decode cX1_tally 3 = .ok (.istore_n 3, 1) := by decide +kernel
theorem dX1_tally_4 : decode cX1_tally 4 = .ok (.iload_n 3, 1) := by decide +kernel
theorem dX1_tally_5 : decode cX1_tally 5 = .ok (.aload_n 0, 1) := by decide +kernel
theorem dX1_tally_6 : decode cX1_tally 6 = .ok (.getfield 54, 3) := by decide +kernel
theorem dX1_tally_9 : decode cX1_tally 9 = .ok (.if_icmp .ge 18, 3) := by decide +kernel
theorem dX1_tally_12 : decode cX1_tally 12 = .ok (.iload_n 2, 1) := by decide +kernel
theorem dX1_tally_13 : decode cX1_tally 13 = .ok (.aload_n 0, 1) := by decide +kernel
theorem dX1_tally_14 : decode cX1_tally 14 = .ok (.iload_n 3, 1) := by decide +kernel
theorem dX1_tally_15 : decode cX1_tally 15 = .ok (.iload_n 1, 1) := by decide +kernel
theorem dX1_tally_16 : decode cX1_tally 16 = .ok (.invokevirtual 96, 3) := by decide +kernel
theorem dX1_tally_19 : decode cX1_tally 19 = .ok (.iadd, 1) := by decide +kernel
theorem dX1_tally_20 : decode cX1_tally 20 = .ok (.istore_n 2, 1) := by decide +kernel
theorem dX1_tally_21 : decode cX1_tally 21 = .ok (.iinc 3 1, 3) := by decide +kernel
theorem dX1_tally_24 : decode cX1_tally 24 = .ok (.goto (-20), 3) := by decide +kernel
theorem dX1_tally_27 : decode cX1_tally 27 = .ok (.iload_n 2, 1) := by decide +kernel
theorem dX1_tally_28 : decode cX1_tally 28 = .ok (.ireturn, 1) := by decide +kernel
set_option maxRecDepth 20000 in
theorem ggX1_share_X2_get : GoodIn wsX1_share wsX2_get := goodIn_r _ [8, 9, 23] (by decide +kernel) (by decide +kernel)
set_option maxRecDepth 20000 in
theorem gX1_share_X2_get : GoodIn wsX1_share (wsV RX1 80 RX2 yX2_get wsX2_get) := goodIn_app (goodIn_of _ (by decide +kernel)) ggX1_share_X2_get
theorem dX1_share_0 : decode cX1_share 0 = .ok (.aload_n 0, 1) := by decide +kernel
theorem dX1_share_1 : decode cX1_share 1 = .ok (.getfield 38, 3) := by decide +kernel
theorem dX1_share_4 : decode cX1_share 4 = .ok (.iload_n 1, 1) := by decide +kernel
theorem dX1_share_5 : decode cX1_share 5 = .ok (.invokevirtual 80, 3) := by decide +kernel
theorem dX1_share_8 : decode cX1_share 8 = .ok (.istore_n 3, 1) := by decide +kernel
theorem dX1_share_9 : decode cX1_share 9 = .ok (.aload_n 0, 1) := by decide +kernel
theorem dX1_share_10 : decode cX1_share 10 = .ok (.getfield 35, 3) := by decide +kernel
theorem dX1_share_13 : decode cX1_share 13 = .ok (.iload_n 1, 1) := by decide +kernel
theorem dX1_share_14 : decode cX1_share 14 = .ok (.invokevirtual 80, 3) := by decide +kernel
theorem dX1_share_17 : decode cX1_share 17 = .ok (.istore 4, 2) := by decide +kernel
theorem dX1_share_19 : decode cX1_share 19 = .ok (.iload_n 2, 1) := by decide +kernel
theorem dX1_share_20 : decode cX1_share 20 = .ok (.tableswitch 91 2 6 #[36, 46, 57, 68, 79], 36) := by decide +kernel
theorem dX1_share_56 : decode cX1_share 56 = .ok (.iload_n 3, 1) := by decide +kernel
theorem dX1_share_57 : decode cX1_share 57 = .ok (.ifCond .ne 7, 3) := by decide +kernel
theorem dX1_share_60 : decode cX1_share 60 = .ok (.iconst 1, 1) := by decide +kernel
theorem dX1_share_61 : decode cX1_share 61 = .ok (.goto 4, 3) := by decide +kernel
theorem dX1_share_64 : decode cX1_share 64 = .ok (.iconst 0, 1) := by decide +kernel
theorem dX1_share_65 : decode cX1_share 65 = .ok (.ireturn, 1) := by decide +kernel
theorem dX1_share_66 : decode cX1_share 66 = .ok (.iload_n 3, 1) := by decide +kernel
theorem dX1_share_67 : decode cX1_share 67 = .ok (.iconst 1, 1) := by decide +kernel
theorem dX1_share_68 : decode cX1_share 68 = .ok (.if_icmp .ne 7, 3) := by decide +kernel
theorem dX1_share_71 : decode cX1_share 71 = .ok (.iconst 1, 1) := by decide +kernel
theorem dX1_share_72 : decode cX1_share 72 = .ok (.goto 4, 3) := by decide +kernel
theorem dX1_share_75 : decode cX1_share 75 = .ok (.iconst 0, 1) := by decide +kernel
theorem dX1_share_76 : decode cX1_share 76 = .ok (.ireturn, 1) := by decide +kernel
theorem dX1_share_77 : decode cX1_share 77 = .ok (.iload_n 3, 1) := by decide +kernel
theorem dX1_share_78 : decode cX1_share 78 = .ok (.iconst 2, 1) := by decide +kernel
theorem dX1_share_79 : decode cX1_share 79 = .ok (.if_icmp .ne 7, 3) := by decide +kernel
theorem dX1_share_82 : decode cX1_share 82 = .ok (.iconst 1, 1) := by decide +kernel
theorem dX1_share_83 : decode cX1_share 83 = .ok (.goto 4, 3) := by decide +kernel
theorem dX1_share_86 : decode cX1_share 86 = .ok (.iconst 0, 1) := by decide +kernel
theorem dX1_share_87 : decode cX1_share 87 = .ok (.ireturn, 1) := by decide +kernel
theorem dX1_share_88 : decode cX1_share 88 = .ok (.iload_n 3, 1) := by decide +kernel
theorem dX1_share_89 : decode cX1_share 89 = .ok (.ifCond .ne 8, 3) := by decide +kernel
theorem dX1_share_92 : decode cX1_share 92 = .ok (.iload 4, 2) := by decide +kernel
theorem dX1_share_94 : decode cX1_share 94 = .ok (.goto 4, 3) := by decide +kernel
theorem dX1_share_97 : decode cX1_share 97 = .ok (.iconst 0, 1) := by decide +kernel
theorem dX1_share_98 : decode cX1_share 98 = .ok (.ireturn, 1) := by decide +kernel
theorem dX1_share_99 : decode cX1_share 99 = .ok (.iload_n 3, 1) := by decide +kernel
theorem dX1_share_100 : decode cX1_share 100 = .ok (.iconst 1, 1) := by decide +kernel
theorem dX1_share_101 : decode cX1_share 101 = .ok (.if_icmp .ne 8, 3) := by decide +kernel
theorem dX1_share_104 : decode cX1_share 104 = .ok (.iload 4, 2) := by decide +kernel
theorem dX1_share_106 : decode cX1_share 106 = .ok (.goto 4, 3) := by decide +kernel
theorem dX1_share_109 : decode cX1_share 109 = .ok (.iconst 0, 1) := by decide +kernel
theorem dX1_share_110 : decode cX1_share 110 = .ok (.ireturn, 1) := by decide +kernel
theorem dX1_share_111 : decode cX1_share 111 = .ok (.iload_n 3, 1) := by decide +kernel
theorem dX1_share_112 : decode cX1_share 112 = .ok (.iconst 1, 1) := by decide +kernel
theorem dX1_share_113 : decode cX1_share 113 = .ok (.if_icmp .ne 17, 3) := by decide +kernel
theorem dX1_share_116 : decode cX1_share 116 = .ok (.iload 4, 2) := by decide +kernel
theorem dX1_share_118 : decode cX1_share 118 = .ok (.aload_n 0, 1) := by decide +kernel
theorem dX1_share_119 : decode cX1_share 119 = .ok (.getfield 20, 3) := by decide +kernel
theorem dX1_share_122 : decode cX1_share 122 = .ok (.iload_n 1, 1) := by decide +kernel
theorem dX1_share_123 : decode cX1_share 123 = .ok (.invokevirtual 80, 3) := by decide +kernel
theorem dX1_share_126 : decode cX1_share 126 = .ok (.imul, 1) := by decide +kernel
theorem dX1_share_127 : decode cX1_share 127 = .ok (.goto 4, 3) := by decide +kernel
theorem dX1_share_130 : decode cX1_share 130 = .ok (.iconst 0, 1) := by decide +kernel
theorem dX1_share_131 : decode cX1_share 131 = .ok (.ireturn, 1) := by decide +kernel
set_option maxRecDepth 20000 in
theorem ggX1_passMinutes_X1_lineUp : GoodIn wsX1_passMinutes wsX1_lineUp := goodIn_r _ [7, 8, 9, 10, 1, 11, 12, 13, 6, 14, 15, 16, 17, 18, 19, 20, 21, 22, 23, 24, 25, 26, 27, 28, 29, 30, 31, 32, 89, 90, 91, 92, 93, 94, 95, 96, 97, 98, 99, 100, 101, 102] (by decide +kernel) (by decide +kernel)
set_option maxRecDepth 20000 in
theorem gX1_passMinutes_X1_lineUp : GoodIn wsX1_passMinutes (wsV RX1 100 RX1 yX1_lineUp wsX1_lineUp) := goodIn_app (goodIn_of _ (by decide +kernel)) ggX1_passMinutes_X1_lineUp
set_option maxRecDepth 20000 in
theorem ggX1_passMinutes_X2_get : GoodIn wsX1_passMinutes wsX2_get := goodIn_r _ [27, 28, 102] (by decide +kernel) (by decide +kernel)
set_option maxRecDepth 20000 in
theorem gX1_passMinutes_X2_get : GoodIn wsX1_passMinutes (wsV RX1 80 RX2 yX2_get wsX2_get) := goodIn_app (goodIn_of _ (by decide +kernel)) ggX1_passMinutes_X2_get
set_option maxRecDepth 20000 in
theorem ggX1_passMinutes_X1_drift : GoodIn wsX1_passMinutes wsX1_drift := goodIn_r _ [36, 10, 37, 9, 38, 39, 23, 24, 25, 26, 27, 28, 11, 12, 13, 6, 14, 15, 16, 17, 18, 19, 8, 20, 21, 22, 40, 41, 42, 43, 44, 45, 46, 47, 48, 49, 50, 51, 52, 53, 54, 55, 56, 29, 30, 31, 32, 57, 58, 59, 60, 61, 2, 62, 63, 64, 65, 66, 67, 68, 69, 70, 71, 72, 73, 74, 75, 76, 77, 78, 79, 89, 90, 91, 92, 93, 94, 95, 96, 97, 98, 99, 100, 101, 103, 104, 105, 106, 107, 102] (by decide +kernel) (by decide +kernel)
set_option maxRecDepth 20000 in
theorem gX1_passMinutes_X1_drift : GoodIn wsX1_passMinutes (wsV RX1 104 RX1 yX1_drift wsX1_drift) := goodIn_app (goodIn_of _ (by decide +kernel)) ggX1_passMinutes_X1_drift
set_option maxRecDepth 20000 in
theorem ggX1_passMinutes_X1_useWax : GoodIn wsX1_passMinutes wsX1_useWax := goodIn_r _ [83, 8, 84, 38, 11, 12, 13, 6, 14, 15, 16, 17, 18, 19, 20, 21, 22, 23, 24, 25, 26, 27, 28, 85, 86, 87, 88, 29, 30, 31, 32, 89, 90, 91, 92, 93, 94, 95, 96, 97, 98, 99, 100, 101, 102] (by decide +kernel) (by decide +kernel)
set_option maxRecDepth 20000 in
theorem gX1_passMinutes_X1_useWax : GoodIn wsX1_passMinutes (wsV RX1 108 RX1 yX1_useWax wsX1_useWax) := goodIn_app (goodIn_of _ (by decide +kernel)) ggX1_passMinutes_X1_useWax
theorem dX1_passMinutes_0 : decode cX1_passMinutes 0 = .ok (.iconst 0, 1) := by decide +kernel
theorem dX1_passMinutes_1 : decode cX1_passMinutes 1 = .ok (.istore_n 3, 1) := by decide +kernel
theorem dX1_passMinutes_2 : decode cX1_passMinutes 2 = .ok (.iload_n 3, 1) := by decide +kernel
theorem dX1_passMinutes_3 : decode cX1_passMinutes 3 = .ok (.iload_n 1, 1) := by decide +kernel
theorem dX1_passMinutes_4 : decode cX1_passMinutes 4 = .ok (.if_icmp .ge 62, 3) := by decide +kernel
theorem dX1_passMinutes_7 : decode cX1_passMinutes 7 = .ok (.aload_n 0, 1) := by decide +kernel
theorem dX1_passMinutes_8 : decode cX1_passMinutes 8 = .ok (.invokevirtual 100, 3) := by decide +kernel
theorem dX1_passMinutes_11 : decode cX1_passMinutes 11 = .ok (.istore 4, 2) := by decide +kernel
theorem dX1_passMinutes_13 : decode cX1_passMinutes 13 = .ok (.iconst 0, 1) := by decide +kernel
theorem dX1_passMinutes_14 : decode cX1_passMinutes 14 = .ok (.istore 5, 2) := by decide +kernel
theorem dX1_passMinutes_16 : decode cX1_passMinutes 16 = .ok (.iload 5, 2) := by decide +kernel
theorem dX1_passMinutes_18 : decode cX1_passMinutes 18 = .ok (.iload 4, 2) := by decide +kernel
theorem dX1_passMinutes_20 : decode cX1_passMinutes 20 = .ok (.if_icmp .ge 26, 3) := by decide +kernel
theorem dX1_passMinutes_23 : decode cX1_passMinutes 23 = .ok (.aload_n 0, 1) := by decide +kernel
theorem dX1_passMinutes_24 : decode cX1_passMinutes 24 = .ok (.aload_n 0, 1) := by decide +kernel
theorem dX1_passMinutes_25 : decode cX1_passMinutes 25 = .ok (.getfield 47, 3) := by decide +kernel
theorem dX1_passMinutes_28 : decode cX1_passMinutes 28 = .ok (.iload 5, 2) := by decide +kernel
theorem dX1_passMinutes_30 : decode cX1_passMinutes 30 = .ok (.invokevirtual 80, 3) := by decide +kernel
theorem dX1_passMinutes_33 : decode cX1_passMinutes 33 = .ok (.bipush 64, 2) := by decide +kernel
theorem dX1_passMinutes_35 : decode cX1_passMinutes 35 = .ok (.irem, 1) := by decide +kernel
theorem dX1_passMinutes_36 : decode cX1_passMinutes 36 = .ok (.aload_n 2, 1) := by decide +kernel
theorem dX1_passMinutes_37 : decode cX1_passMinutes 37 = .ok (.invokevirtual 104, 3) := by decide +kernel
theorem dX1_passMinutes_40 : decode cX1_passMinutes 40 = .ok (.iinc 5 1, 3) := by decide +kernel
theorem dX1_passMinutes_43 : decode cX1_passMinutes 43 = .ok (.goto (-27), 3) := by decide +kernel
theorem dX1_passMinutes_46 : decode cX1_passMinutes 46 = .ok (.aload_n 0, 1) := by decide +kernel
theorem dX1_passMinutes_47 : decode cX1_passMinutes 47 = .ok (.invokevirtual 108, 3) := by decide +kernel
theorem dX1_passMinutes_50 : decode cX1_passMinutes 50 = .ok (.aload_n 0, 1) := by decide +kernel
theorem dX1_passMinutes_51 : decode cX1_passMinutes 51 = .ok (.dup, 1) := by decide +kernel
theorem dX1_passMinutes_52 : decode cX1_passMinutes 52 = .ok (.getfield 58, 3) := by decide +kernel
theorem dX1_passMinutes_55 : decode cX1_passMinutes 55 = .ok (.iconst 1, 1) := by decide +kernel
theorem dX1_passMinutes_56 : decode cX1_passMinutes 56 = .ok (.iadd, 1) := by decide +kernel
theorem dX1_passMinutes_57 : decode cX1_passMinutes 57 = .ok (.putfield 58, 3) := by decide +kernel
theorem dX1_passMinutes_60 : decode cX1_passMinutes 60 = .ok (.iinc 3 1, 3) := by decide +kernel
theorem dX1_passMinutes_63 : decode cX1_passMinutes 63 = .ok (.goto (-61), 3) := by decide +kernel
theorem dX1_passMinutes_66 : decode cX1_passMinutes 66 = .ok (.return_, 1) := by decide +kernel
set_option maxRecDepth 20000 in
theorem ggX1_lineUp_X1_isAfloat : GoodIn wsX1_lineUp wsX1_isAfloat := goodIn_r _ [9, 10, 11, 12, 13, 8, 14, 1, 15, 16, 17, 18, 19, 20, 21, 22, 23, 28, 29, 30, 31, 32, 33, 34, 35, 36, 37, 38, 39, 40, 41] (by decide +kernel) (by decide +kernel)
set_option maxRecDepth 20000 in
theorem gX1_lineUp_X1_isAfloat : GoodIn wsX1_lineUp (wsV RX1 111 RX1 yX1_isAfloat wsX1_isAfloat) := goodIn_app (goodIn_of _ (by decide +kernel)) ggX1_lineUp_X1_isAfloat
set_option maxRecDepth 20000 in
theorem ggX1_lineUp_X2_get : GoodIn wsX1_lineUp wsX2_get := goodIn_r _ [22, 23, 41] (by decide +kernel) (by decide +kernel)
set_option maxRecDepth 20000 in
theorem gX1_lineUp_X2_get : GoodIn wsX1_lineUp (wsV RX1 80 RX2 yX2_get wsX2_get) := goodIn_app (goodIn_of _ (by decide +kernel)) ggX1_lineUp_X2_get
set_option maxRecDepth 20000 in
theorem ggX1_lineUp_X2_put : GoodIn wsX1_lineUp wsX2_put := goodIn_r _ [27, 23, 41] (by decide +kernel) (by decide +kernel)
set_option maxRecDepth 20000 in
theorem gX1_lineUp_X2_put : GoodIn wsX1_lineUp (wsV RX1 61 RX2 yX2_put wsX2_put) := goodIn_app (goodIn_of _ (by decide +kernel)) ggX1_lineUp_X2_put
theorem dX1_lineUp_0 : decode cX1_lineUp 0 = .ok (.iconst 0, 1) := by decide +kernel
theorem dX1_lineUp_1 : decode cX1_lineUp 1 = .ok (.istore_n 1, 1) := by decide +kernel
theorem dX1_lineUp_2 : decode cX1_lineUp 2 = .ok (.iconst 0, 1) := by decide +kernel
theorem dX1_lineUp_3 : decode cX1_lineUp 3 = .ok (.istore_n 2, 1) := by decide +kernel
theorem dX1_lineUp_4 : decode cX1_lineUp 4 = .ok (.iload_n 2, 1) := by decide +kernel
theorem dX1_lineUp_5 : decode cX1_lineUp 5 = .ok (.aload_n 0, 1) := by decide +kernel
theorem dX1_lineUp_6 : decode cX1_lineUp 6 = .ok (.getfield 54, 3) := by decide +kernel
theorem dX1_lineUp_9 : decode cX1_lineUp 9 = .ok (.if_icmp .ge 112, 3) := by decide +kernel
theorem dX1_lineUp_12 : decode cX1_lineUp 12 = .ok (.aload_n 0, 1) := by decide +kernel
theorem dX1_lineUp_13 : decode cX1_lineUp 13 = .ok (.iload_n 2, 1) := by decide +kernel
theorem dX1_lineUp_14 : decode cX1_lineUp 14 = .ok (.invokevirtual 111, 3) := by decide +kernel
theorem dX1_lineUp_17 : decode cX1_lineUp 17 = .ok (.ifCond .eq 98, 3) := by decide +kernel
theorem dX1_lineUp_20 : decode cX1_lineUp 20 = .ok (.bipush 59, 2) := by decide +kernel
theorem dX1_lineUp_22 : decode cX1_lineUp 22 = .ok (.aload_n 0, 1) := by decide +kernel
theorem dX1_lineUp_23 : decode cX1_lineUp 23 = .ok (.getfield 26, 3) := by decide +kernel
theorem dX1_lineUp_26 : decode cX1_lineUp 26 = .ok (.iload_n 2, 1) := by decide +kernel
theorem dX1_lineUp_27 : decode cX1_lineUp 27 = .ok (.invokevirtual 80, 3) := by decide +kernel
theorem dX1_lineUp_30 : decode cX1_lineUp 30 = .ok (.isub, 1) := by decide +kernel
theorem dX1_lineUp_31 : decode cX1_lineUp 31 = .ok (.iconst 3, 1) := by decide +kernel
theorem dX1_lineUp_32 : decode cX1_lineUp 32 = .ok (.imul, 1) := by decide +kernel
theorem dX1_lineUp_33 : decode cX1_lineUp 33 = .ok (.aload_n 0, 1) := by decide +kernel
theorem dX1_lineUp_34 : decode cX1_lineUp 34 = .ok (.getfield 23, 3) := by decide +kernel
theorem dX1_lineUp_37 : decode cX1_lineUp 37 = .ok (.iload_n 2, 1) := by decide +kernel
theorem dX1_lineUp_38 : decode cX1_lineUp 38 = .ok (.invokevirtual 80, 3) := by decide +kernel
theorem dX1_lineUp_41 : decode cX1_lineUp 41 = .ok (.iadd, 1) := by decide +kernel
theorem dX1_lineUp_42 : decode cX1_lineUp 42 = .ok (.istore_n 3, 1) := by decide +kernel
theorem dX1_lineUp_43 : decode cX1_lineUp 43 = .ok (.iload_n 3, 1) := by decide +kernel
theorem dX1_lineUp_44 : decode cX1_lineUp 44 = .ok (.bipush 64, 2) := by decide +kernel
theorem dX1_lineUp_46 : decode cX1_lineUp 46 = .ok (.imul, 1) := by decide +kernel
theorem dX1_lineUp_47 : decode cX1_lineUp 47 = .ok (.iload_n 2, 1) := by decide +kernel
theorem dX1_lineUp_48 : decode cX1_lineUp 48 = .ok (.iadd, 1) := by decide +kernel
theorem dX1_lineUp_49 : decode cX1_lineUp 49 = .ok (.istore 4, 2) := by decide +kernel
theorem dX1_lineUp_51 : decode cX1_lineUp 51 = .ok (.iload_n 1, 1) := by decide +kernel
theorem dX1_lineUp_52 : decode cX1_lineUp 52 = .ok (.istore 5, 2) := by decide +kernel
theorem dX1_lineUp_54 : decode cX1_lineUp 54 = .ok (.iload 5, 2) := by decide +kernel
theorem dX1_lineUp_56 : decode cX1_lineUp 56 = .ok (.ifCond .le 45, 3) := by decide +kernel
theorem dX1_lineUp_59 : decode cX1_lineUp 59 = .ok (.aload_n 0, 1) := by decide +kernel
theorem dX1_lineUp_60 : decode cX1_lineUp 60 = .ok (.getfield 47, 3) := by decide +kernel
theorem dX1_lineUp_63 : decode cX1_lineUp 63 = .ok (.iload 5, 2) := by decide +kernel
theorem dX1_lineUp_65 : decode cX1_lineUp 65 = .ok (.iconst 1, 1) := by decide +kernel
theorem dX1_lineUp_66 : decode cX1_lineUp 66 = .ok (.isub, 1) := by decide +kernel
theorem dX1_lineUp_67 : decode cX1_lineUp 67 = .ok (.invokevirtual 80, 3) := by decide +kernel
theorem dX1_lineUp_70 : decode cX1_lineUp 70 = .ok (.iload 4, 2) := by decide +kernel
theorem dX1_lineUp_72 : decode cX1_lineUp 72 = .ok (.if_icmp .le 29, 3) := by decide +kernel
theorem dX1_lineUp_75 : decode cX1_lineUp 75 = .ok (.aload_n 0, 1) := by decide +kernel
theorem dX1_lineUp_76 : decode cX1_lineUp 76 = .ok (.getfield 47, 3) := by decide +kernel
theorem dX1_lineUp_79 : decode cX1_lineUp 79 = .ok (.iload 5, 2) := by decide +kernel
theorem dX1_lineUp_81 : decode cX1_lineUp 81 = .ok (.aload_n 0, 1) := by decide +kernel
theorem dX1_lineUp_82 : decode cX1_lineUp 82 = .ok (.getfield 47, 3) := by decide +kernel
theorem dX1_lineUp_85 : decode cX1_lineUp 85 = .ok (.iload 5, 2) := by decide +kernel
theorem dX1_lineUp_87 : decode cX1_lineUp 87 = .ok (.iconst 1, 1) := by decide +kernel
theorem dX1_lineUp_88 : decode cX1_lineUp 88 = .ok (.isub, 1) := by decide +kernel
theorem dX1_lineUp_89 : decode cX1_lineUp 89 = .ok (.invokevirtual 80, 3) := by decide +kernel
theorem dX1_lineUp_92 : decode cX1_lineUp 92 = .ok (.invokevirtual 61, 3) := by decide +kernel
theorem dX1_lineUp_95 : decode cX1_lineUp 95 = .ok (.iinc 5 (-1), 3) := by decide +kernel
theorem dX1_lineUp_98 : decode cX1_lineUp 98 = .ok (.goto (-44), 3) := by decide +kernel
theorem dX1_lineUp_101 : decode cX1_lineUp 101 = .ok (.aload_n 0, 1) := by decide +kernel
theorem dX1_lineUp_102 : decode cX1_lineUp 102 = .ok (.getfield 47, 3) := by decide +kernel
theorem dX1_lineUp_105 : decode cX1_lineUp 105 = .ok (.iload 5, 2) := by decide +kernel
theorem dX1_lineUp_107 : decode cX1_lineUp 107 = .ok (.iload 4, 2) := by decide +kernel
theorem dX1_lineUp_109 : decode cX1_lineUp 109 = .ok (.invokevirtual 61, 3) := by decide +kernel
theorem dX1_lineUp_112 : decode cX1_lineUp 112 = .ok (.iinc 1 1, 3) := by decide +kernel
theorem dX1_lineUp_115 : decode cX1_lineUp 115 = .ok (.iinc 2 1, 3) := by decide +kernel
theorem dX1_lineUp_118 : decode cX1_lineUp 118 = .ok (.goto (-114), 3) := by decide +kernel
theorem dX1_lineUp_121 : decode cX1_lineUp 121 = .ok (.iload_n 1, 1) := by decide +kernel
theorem dX1_lineUp_122 : decode cX1_lineUp 122 = .ok (.ireturn, 1) := by decide +kernel
set_option maxRecDepth 20000 in
theorem ggX1_drift_X2_get : GoodIn wsX1_drift wsX2_get := goodIn_r _ [10, 11, 89] (by decide +kernel) (by decide +kernel)
set_option maxRecDepth 20000 in
theorem gX1_drift_X2_get : GoodIn wsX1_drift (wsV RX1 80 RX2 yX2_get wsX2_get) := goodIn_app (goodIn_of _ (by decide +kernel)) ggX1_drift_X2_get
set_option maxRecDepth 20000 in
theorem ggX1_drift_X1_isAfloat : GoodIn wsX1_drift wsX1_isAfloat := goodIn_r _ [16, 17, 18, 19, 20, 15, 21, 22, 23, 24, 25, 6, 7, 8, 9, 10, 11, 71, 72, 73, 74, 75, 76, 77, 78, 79, 80, 81, 82, 83, 89] (by decide +kernel) (by decide +kernel)
set_option maxRecDepth 20000 in
theorem gX1_drift_X1_isAfloat : GoodIn wsX1_drift (wsV RX1 111 RX1 yX1_isAfloat wsX1_isAfloat) := goodIn_app (goodIn_of _ (by decide +kernel)) ggX1_drift_X1_isAfloat
set_option maxRecDepth 20000 in
theorem ggX1_drift_X1_catchesAhead : GoodIn wsX1_drift wsX1_catchesAhead := goodIn_r _ [29, 3, 30, 31, 1, 6, 7, 8, 9, 10, 11, 32, 33, 15, 34, 71, 72, 73, 74, 75, 76, 77, 78, 79, 80, 81, 82, 83, 89] (by decide +kernel) (by decide +kernel)
set_option maxRecDepth 20000 in
theorem gX1_drift_X1_catchesAhead : GoodIn wsX1_drift (wsV RX1 119 RX1 yX1_catchesAhead wsX1_catchesAhead) := goodIn_app (goodIn_of _ (by decide +kernel)) ggX1_drift_X1_catchesAhead
set_option maxRecDepth 20000 in
theorem ggX1_drift_X1_moveTo : GoodIn wsX1_drift wsX1_moveTo := goodIn_r _ [38, 1, 3, 39, 40, 41, 15, 42, 30, 31, 6, 7, 8, 9, 10, 11, 32, 33, 34, 43, 44, 45, 46, 71, 72, 73, 74, 75, 76, 77, 78, 79, 80, 81, 82, 83, 89] (by decide +kernel) (by decide +kernel)
set_option maxRecDepth 20000 in
theorem gX1_drift_X1_moveTo : GoodIn wsX1_drift (wsV RX1 122 RX1 yX1_moveTo wsX1_moveTo) := goodIn_app (goodIn_of _ (by decide +kernel)) ggX1_drift_X1_moveTo
set_option maxRecDepth 20000 in
theorem ggX1_drift_X2_put : GoodIn wsX1_drift wsX2_put := goodIn_r _ [46, 11, 89] (by decide +kernel) (by decide +kernel)
set_option maxRecDepth 20000 in
theorem gX1_drift_X2_put : GoodIn wsX1_drift (wsV RX1 61 RX2 yX2_put wsX2_put) := goodIn_app (goodIn_of _ (by decide +kernel)) ggX1_drift_X2_put
set_option maxRecDepth 20000 in
theorem ggX1_drift_X1_leave : GoodIn wsX1_drift wsX1_leave := goodIn_r _ [50, 17, 51, 52, 39, 40, 41, 15, 42, 1, 3, 30, 31, 6, 7, 8, 9, 10, 11, 32, 33, 34, 43, 44, 45, 46, 71, 72, 73, 74, 75, 76, 77, 78, 79, 80, 81, 82, 83, 89] (by decide +kernel) (by decide +kernel)
set_option maxRecDepth 20000 in
theorem gX1_drift_X1_leave : GoodIn wsX1_drift (wsV RX1 126 RX1 yX1_leave wsX1_leave) := goodIn_app (goodIn_of _ (by decide +kernel)) ggX1_drift_X1_leave
set_option maxRecDepth 20000 in
theorem ggX1_drift_X1_meetWeir : GoodIn wsX1_drift wsX1_meetWeir := goodIn_r _ [56, 31, 1, 3, 57, 4, 6, 7, 8, 9, 10, 11, 32, 33, 15, 34, 43, 44, 45, 46, 58, 59, 60, 61, 30, 62, 24, 63, 71, 72, 73, 74, 75, 76, 77, 78, 79, 80, 81, 82, 83, 89] (by decide +kernel) (by decide +kernel)
set_option maxRecDepth 20000 in
theorem gX1_drift_X1_meetWeir : GoodIn wsX1_drift (wsV RX1 132 RX1 yX1_meetWeir wsX1_meetWeir) := goodIn_app (goodIn_of _ (by decide +kernel)) ggX1_drift_X1_meetWeir
set_option maxRecDepth 20000 in
theorem ggX1_drift_X0_hasNet : GoodIn wsX1_drift wsX0_hasNet := goodIn_r _ [68, 69, 70, 7, 8, 9, 10, 11, 84, 85, 86, 87, 88, 89] (by decide +kernel) (by decide +kernel)
set_option maxRecDepth 20000 in
theorem gX1_drift_X0_hasNet : GoodIn wsX1_drift (wsV RX1 135 RX0 yX0_hasNet wsX0_hasNet) := goodIn_app (goodIn_of _ (by decide +kernel)) ggX1_drift_X0_hasNet
theorem dX1_drift_0 : decode cX1_drift 0 = .ok (.aload_n 0, 1) := by decide +kernel
theorem dX1_drift_1 : decode cX1_drift 1 = .ok (.getfield 23, 3) := by decide +kernel
theorem dX1_drift_4 : decode cX1_drift 4 = .ok (.iload_n 1, 1) := by decide +kernel
theorem dX1_drift_5 : decode cX1_drift 5 = .ok (.invokevirtual 80, 3) := by decide +kernel
theorem dX1_drift_8 : decode cX1_drift 8 = .ok (.istore_n 3, 1) := by decide +kernel
theorem dX1_drift_9 : decode cX1_drift 9 = .ok (.aload_n 2, 1) := by decide +kernel
theorem dX1_drift_10 : decode cX1_drift 10 = .ok (.getfield 114, 3) := by decide +kernel
theorem dX1_drift_13 : decode cX1_drift 13 = .ok (.iload_n 3, 1) := by decide +kernel
theorem dX1_drift_14 : decode cX1_drift 14 = .ok (.invokevirtual 80, 3) := by decide +kernel
theorem dX1_drift_17 : decode cX1_drift 17 = .ok (.istore 4, 2) := by decide +kernel
theorem dX1_drift_19 : decode cX1_drift 19 = .ok (.iconst 0, 1) := by decide +kernel
theorem dX1_drift_20 : decode cX1_drift 20 = .ok (.istore 5, 2) := by decide +kernel
theorem dX1_drift_22 : decode cX1_drift 22 = .ok (.iload 5, 2) := by decide +kernel
theorem dX1_drift_24 : decode cX1_drift 24 = .ok (.iload 4, 2) := by decide +kernel
theorem dX1_drift_26 : decode cX1_drift 26 = .ok (.if_icmp .ge 100, 3) := by decide +kernel
theorem dX1_drift_29 : decode cX1_drift 29 = .ok (.aload_n 0, 1) := by decide +kernel
theorem dX1_drift_30 : decode cX1_drift 30 = .ok (.iload_n 1, 1) := by decide +kernel
theorem dX1_drift_31 : decode cX1_drift 31 = .ok (.invokevirtual 111, 3) := by decide +kernel
theorem dX1_drift_34 : decode cX1_drift 34 = .ok (.ifCond .eq 92, 3) := by decide +kernel
theorem dX1_drift_37 : decode cX1_drift 37 = .ok (.aload_n 0, 1) := by decide +kernel
theorem dX1_drift_38 : decode cX1_drift 38 = .ok (.iload_n 1, 1) := by decide +kernel
theorem dX1_drift_39 : decode cX1_drift 39 = .ok (.invokevirtual 119, 3) := by decide +kernel
theorem dX1_drift_42 : decode cX1_drift 42 = .ok (.ifCond .ne 84, 3) := by decide +kernel
theorem dX1_drift_45 : decode cX1_drift 45 = .ok (.aload_n 0, 1) := by decide +kernel
theorem dX1_drift_46 : decode cX1_drift 46 = .ok (.getfield 26, 3) := by decide +kernel
theorem dX1_drift_49 : decode cX1_drift 49 = .ok (.iload_n 1, 1) := by decide +kernel
theorem dX1_drift_50 : decode cX1_drift 50 = .ok (.invokevirtual 80, 3) := by decide +kernel
theorem dX1_drift_53 : decode cX1_drift 53 = .ok (.iconst 1, 1) := by decide +kernel
theorem dX1_drift_54 : decode cX1_drift 54 = .ok (.iadd, 1) := by decide +kernel
theorem dX1_drift_55 : decode cX1_drift 55 = .ok (.istore 6, 2) := by decide +kernel
theorem dX1_drift_57 : decode cX1_drift 57 = .ok (.aload_n 0, 1) := by decide +kernel
theorem dX1_drift_58 : decode cX1_drift 58 = .ok (.iload_n 1, 1) := by decide +kernel
theorem dX1_drift_59 : decode cX1_drift 59 = .ok (.iload_n 3, 1) := by decide +kernel
theorem dX1_drift_60 : decode cX1_drift 60 = .ok (.iload 6, 2) := by decide +kernel
theorem dX1_drift_62 : decode cX1_drift 62 = .ok (.invokevirtual 122, 3) := by decide +kernel
theorem dX1_drift_65 : decode cX1_drift 65 = .ok (.iload 6, 2) := by decide +kernel
theorem dX1_drift_67 : decode cX1_drift 67 = .ok (.bipush 60, 2) := by decide +kernel
theorem dX1_drift_69 : decode cX1_drift 69 = .ok (.if_icmp .lt 21, 3) := by decide +kernel
theorem dX1_drift_72 : decode cX1_drift 72 = .ok (.aload_n 0, 1) := by decide +kernel
theorem dX1_drift_73 : decode cX1_drift 73 = .ok (.getfield 35, 3) := by decide +kernel
theorem dX1_drift_76 : decode cX1_drift 76 = .ok (.iload_n 1, 1) := by decide +kernel
theorem dX1_drift_77 : decode cX1_drift 77 = .ok (.iconst 0, 1) := by decide +kernel
theorem dX1_drift_78 : decode cX1_drift 78 = .ok (.invokevirtual 61, 3) := by decide +kernel
theorem dX1_drift_81 : decode cX1_drift 81 = .ok (.aload_n 0, 1) := by decide +kernel
theorem dX1_drift_82 : decode cX1_drift 82 = .ok (.iload_n 1, 1) := by decide +kernel
theorem dX1_drift_83 : decode cX1_drift 83 = .ok (.iconst 2, 1) := by decide +kernel
theorem dX1_drift_84 : decode cX1_drift 84 = .ok (.invokevirtual 126, 3) := by decide +kernel
theorem dX1_drift_87 : decode cX1_drift 87 = .ok (.goto 33, 3) := by decide +kernel
theorem dX1_drift_90 : decode cX1_drift 90 = .ok (.aload_n 0, 1) := by decide +kernel
theorem dX1_drift_91 : decode cX1_drift 91 = .ok (.iload_n 1, 1) := by decide +kernel
theorem dX1_drift_92 : decode cX1_drift 92 = .ok (.aload_n 2, 1) := by decide +kernel
theorem dX1_drift_93 : decode cX1_drift 93 = .ok (.getfield 129, 3) := by decide +kernel
theorem dX1_drift_96 : decode cX1_drift 96 = .ok (.iload 6, 2) := by decide +kernel
theorem dX1_drift_98 : decode cX1_drift 98 = .ok (.invokevirtual 80, 3) := by decide +kernel
theorem dX1_drift_101 : decode cX1_drift 101 = .ok (.invokevirtual 132, 3) := by decide +kernel
theorem dX1_drift_104 : decode cX1_drift 104 = .ok (.aload_n 2, 1) := by decide +kernel
theorem dX1_drift_105 : decode cX1_drift 105 = .ok (.iload_n 3, 1) := by decide +kernel
theorem dX1_drift_106 : decode cX1_drift 106 = .ok (.iload 6, 2) := by decide +kernel
theorem dX1_drift_108 : decode cX1_drift 108 = .ok (.invokevirtual 135, 3) := by decide +kernel
theorem dX1_drift_111 : decode cX1_drift 111 = .ok (.ifCond .eq 9, 3) := by decide +kernel
theorem dX1_drift_114 : decode cX1_drift 114 = .ok (.aload_n 0, 1) := by decide +kernel
theorem dX1_drift_115 : decode cX1_drift 115 = .ok (.iload_n 1, 1) := by decide +kernel
theorem dX1_drift_116 : decode cX1_drift 116 = .ok (.iconst 1, 1) := by decide +kernel
theorem dX1_drift_117 : decode cX1_drift 117 = .ok (.invokevirtual 126, 3) := by decide +kernel
theorem dX1_drift_120 : decode cX1_drift 120 = .ok (.iinc 5 1, 3) := by decide +kernel
theorem dX1_drift_123 : decode cX1_drift 123 = .ok (.goto (-101), 3) := by decide +kernel
theorem dX1_drift_126 : decode cX1_drift 126 = .ok (.return_, 1) := by decide +kernel
set_option maxRecDepth 20000 in
theorem ggX1_catchesAhead_X2_get : GoodIn wsX1_catchesAhead wsX2_get := goodIn_r _ [9, 10, 28] (by decide +kernel) (by decide +kernel)
set_option maxRecDepth 20000 in
theorem gX1_catchesAhead_X2_get : GoodIn wsX1_catchesAhead (wsV RX1 80 RX2 yX2_get wsX2_get) := goodIn_app (goodIn_of _ (by decide +kernel)) ggX1_catchesAhead_X2_get
set_option maxRecDepth 20000 in
theorem ggX1_catchesAhead_X1_cell : GoodIn wsX1_catchesAhead wsX1_cell := goodIn_r _ [14] (by decide +kernel) (by decide +kernel)
set_option maxRecDepth 20000 in
theorem gX1_catchesAhead_X1_cell : GoodIn wsX1_catchesAhead (va_wsS RX1 92 yX1_cell wsX1_cell) := goodIn_app (goodIn_of _ (by decide +kernel)) ggX1_catchesAhead_X1_cell
theorem dX1_catchesAhead_0 : decode cX1_catchesAhead 0 = .ok (.aload_n 0, 1) := by decide +kernel
theorem dX1_catchesAhead_1 : decode cX1_catchesAhead 1 = .ok (.getfield 26, 3) := by decide +kernel
theorem dX1_catchesAhead_4 : decode cX1_catchesAhead 4 = .ok (.iload_n 1, 1) := by decide +kernel
theorem dX1_catchesAhead_5 : decode cX1_catchesAhead 5 = .ok (.invokevirtual 80, 3) := by decide +kernel
theorem dX1_catchesAhead_8 : decode cX1_catchesAhead 8 = .ok (.iconst 1, 1) := by decide +kernel
theorem dX1_catchesAhead_9 : decode cX1_catchesAhead 9 = .ok (.iadd, 1) := by decide +kernel
theorem dX1_catchesAhead_10 : decode cX1_catchesAhead 10 = .ok (.istore_n 2, 1) := by decide +kernel
theorem dX1_catchesAhead_11 : decode cX1_catchesAhead 11 = .ok (.iconst 0, 1) := by decide +kernel
theorem dX1_catchesAhead_12 : decode cX1_catchesAhead 12 = .ok (.istore_n 3, 1) := by decide +kernel
theorem dX1_catchesAhead_13 : decode cX1_catchesAhead 13 = .ok (.iload_n 3, 1) := by decide +kernel
theorem dX1_catchesAhead_14 : decode cX1_catchesAhead 14 = .ok (.iconst 3, 1) := by decide +kernel
theorem dX1_catchesAhead_15 : decode cX1_catchesAhead 15 = .ok (.if_icmp .ge 46, 3) := by decide +kernel
theorem dX1_catchesAhead_18 : decode cX1_catchesAhead 18 = .ok (.iload_n 3, 1) := by decide +kernel
theorem dX1_catchesAhead_19 : decode cX1_catchesAhead 19 = .ok (.aload_n 0, 1) := by decide +kernel
theorem dX1_catchesAhead_20 : decode cX1_catchesAhead 20 = .ok (.getfield 16, 3) := by decide +kernel
theorem dX1_catchesAhead_23 : decode cX1_catchesAhead 23 = .ok (.iload_n 1, 1) := by decide +kernel
theorem dX1_catchesAhead_24 : decode cX1_catchesAhead 24 = .ok (.invokevirtual 80, 3) := by decide +kernel
theorem dX1_catchesAhead_27 : decode cX1_catchesAhead 27 = .ok (.if_icmp .eq 28, 3) := by decide +kernel
theorem dX1_catchesAhead_30 : decode cX1_catchesAhead 30 = .ok (.aload_n 0, 1) := by decide +kernel
theorem dX1_catchesAhead_31 : decode cX1_catchesAhead 31 = .ok (.getfield 44, 3) := by decide +kernel
theorem dX1_catchesAhead_34 : decode cX1_catchesAhead 34 = .ok (.aload_n 0, 1) := by decide +kernel
theorem dX1_catchesAhead_35 : decode cX1_catchesAhead 35 = .ok (.getfield 23, 3) := by decide +kernel
theorem dX1_catchesAhead_38 : decode cX1_catchesAhead 38 = .ok (.iload_n 1, 1) := by decide +kernel
theorem dX1_catchesAhead_39 : decode cX1_catchesAhead 39 = .ok (.invokevirtual 80, 3) := by decide +kernel
theorem dX1_catchesAhead_42 : decode cX1_catchesAhead 42 = .ok (.iload_n 2, 1) := by decide +kernel
theorem dX1_catchesAhead_43 : decode cX1_catchesAhead 43 = .ok (.iload_n 3, 1) := by decide +kernel
theorem dX1_catchesAhead_44 : decode cX1_catchesAhead 44 = .ok (.invokestatic 92, 3) := by decide +kernel
theorem dX1_catchesAhead_47 : decode cX1_catchesAhead 47 = .ok (.invokevirtual 80, 3) := by decide +kernel
theorem dX1_catchesAhead_50 : decode cX1_catchesAhead 50 = .ok (.ifCond .le 5, 3) := by decide +kernel
theorem dX1_catchesAhead_53 : decode cX1_catchesAhead 53 = .ok (.iconst 1, 1) := by decide +kernel
theorem dX1_catchesAhead_54 : decode cX1_catchesAhead 54 = .ok (.ireturn, 1) := by decide +kernel
theorem dX1_catchesAhead_55 : decode cX1_catchesAhead 55 = .ok (.iinc 3 1, 3) := by decide +kernel
theorem dX1_catchesAhead_58 : decode cX1_catchesAhead 58 = .ok (.goto (-45), 3) := by decide +kernel
theorem dX1_catchesAhead_61 : decode cX1_catchesAhead 61 = .ok (.iconst 0, 1) := by decide +kernel
theorem dX1_catchesAhead_62 : decode cX1_catchesAhead 62 = .ok (.ireturn, 1) := by decide +kernel
set_option maxRecDepth 20000 in
theorem ggX1_meetWeir_X2_get : GoodIn wsX1_meetWeir wsX2_get := goodIn_r _ [10, 11, 41] (by decide +kernel) (by decide +kernel)
set_option maxRecDepth 20000 in
theorem gX1_meetWeir_X2_get : GoodIn wsX1_meetWeir (wsV RX1 80 RX2 yX2_get wsX2_get) := goodIn_app (goodIn_of _ (by decide +kernel)) ggX1_meetWeir_X2_get
set_option maxRecDepth 20000 in
theorem ggX1_meetWeir_X1_cell : GoodIn wsX1_meetWeir wsX1_cell := goodIn_r _ [15] (by decide +kernel) (by decide +kernel)
set_option maxRecDepth 20000 in
theorem gX1_meetWeir_X1_cell : GoodIn wsX1_meetWeir (va_wsS RX1 92 yX1_cell wsX1_cell) := goodIn_app (goodIn_of _ (by decide +kernel)) ggX1_meetWeir_X1_cell
set_option maxRecDepth 20000 in
theorem ggX1_meetWeir_X2_put : GoodIn wsX1_meetWeir wsX2_put := goodIn_r _ [19, 11, 41] (by decide +kernel) (by decide +kernel)
set_option maxRecDepth 20000 in
theorem gX1_meetWeir_X2_put : GoodIn wsX1_meetWeir (wsV RX1 61 RX2 yX2_put wsX2_put) := goodIn_app (goodIn_of _ (by decide +kernel)) ggX1_meetWeir_X2_put
set_option maxRecDepth 20000 in
theorem ggX1_meetWeir_X1_isSoaked : GoodIn wsX1_meetWeir wsX1_isSoaked := goodIn_r _ [23, 4, 24, 6, 7, 8, 9, 10, 11, 25, 26, 27, 28, 29, 30, 31, 32, 33, 34, 35, 36, 37, 38, 39, 40, 41] (by decide +kernel) (by decide +kernel)
set_option maxRecDepth 20000 in
theorem gX1_meetWeir_X1_isSoaked : GoodIn wsX1_meetWeir (wsV RX1 89 RX1 yX1_isSoaked wsX1_isSoaked) := goodIn_app (goodIn_of _ (by decide +kernel)) ggX1_meetWeir_X1_isSoaked
theorem dX1_meetWeir_0 : decode cX1_meetWeir 0 = .ok (.iload_n 2, 1) := by decide +kernel
theorem dX1_meetWeir_1 : decode cX1_meetWeir 1 = .ok (.ifCond .gt 4, 3) := by decide +kernel
theorem dX1_meetWeir_4 : decode cX1_meetWeir 4 = .ok (.return_, 1) := by decide +kernel
theorem dX1_meetWeir_5 : decode cX1_meetWeir 5 = .ok (.iload_n 2, 1) := by decide +kernel
theorem dX1_meetWeir_6 : decode cX1_meetWeir 6 = .ok (.istore_n 3, 1) := by decide +kernel
theorem dX1_meetWeir_7 : decode cX1_meetWeir 7 = .ok (.iconst 1, 1) := by decide +kernel
theorem dX1_meetWeir_8 : decode cX1_meetWeir 8 = .ok (.istore 4, 2) := by decide +kernel
theorem dX1_meetWeir_10 : decode cX1_meetWeir 10 = .ok (.iload 4, 2) := by decide +kernel
theorem dX1_meetWeir_12 : decode cX1_meetWeir 12 = .ok (.iconst 3, 1) := by decide +kernel
theorem dX1_meetWeir_13 : decode cX1_meetWeir 13 = .ok (.if_icmp .gt 58, 3) := by decide +kernel
theorem dX1_meetWeir_16 : decode cX1_meetWeir 16 = .ok (.iconst 0, 1) := by decide +kernel
theorem dX1_meetWeir_17 : decode cX1_meetWeir 17 = .ok (.istore 5, 2) := by decide +kernel
theorem dX1_meetWeir_19 : decode cX1_meetWeir 19 = .ok (.iload 5, 2) := by decide +kernel
theorem dX1_meetWeir_21 : decode cX1_meetWeir 21 = .ok (.iconst 3, 1) := by decide +kernel
theorem dX1_meetWeir_22 : decode cX1_meetWeir 22 = .ok (.if_icmp .ge 43, 3) := by decide +kernel
theorem dX1_meetWeir_25 : decode cX1_meetWeir 25 = .ok (.iload_n 3, 1) := by decide +kernel
theorem dX1_meetWeir_26 : decode cX1_meetWeir 26 = .ok (.aload_n 0, 1) := by decide +kernel
theorem dX1_meetWeir_27 : decode cX1_meetWeir 27 = .ok (.getfield 44, 3) := by decide +kernel
theorem dX1_meetWeir_30 : decode cX1_meetWeir 30 = .ok (.aload_n 0, 1) := by decide +kernel
theorem dX1_meetWeir_31 : decode cX1_meetWeir 31 = .ok (.getfield 23, 3) := by decide +kernel
theorem dX1_meetWeir_34 : decode cX1_meetWeir 34 = .ok (.iload_n 1, 1) := by decide +kernel
theorem dX1_meetWeir_35 : decode cX1_meetWeir 35 = .ok (.invokevirtual 80, 3) := by decide +kernel
theorem dX1_meetWeir_38 : decode cX1_meetWeir 38 = .ok (.aload_n 0, 1) := by decide +kernel
theorem dX1_meetWeir_39 : decode cX1_meetWeir 39 = .ok (.getfield 26, 3) := by decide +kernel
theorem dX1_meetWeir_42 : decode cX1_meetWeir 42 = .ok (.iload_n 1, 1) := by decide +kernel
theorem dX1_meetWeir_43 : decode cX1_meetWeir 43 = .ok (.invokevirtual 80, 3) := by decide +kernel
theorem dX1_meetWeir_46 : decode cX1_meetWeir 46 = .ok (.iload 4, 2) := by decide +kernel
theorem dX1_meetWeir_48 : decode cX1_meetWeir 48 = .ok (.iadd, 1) := by decide +kernel
theorem dX1_meetWeir_49 : decode cX1_meetWeir 49 = .ok (.iload 5, 2) := by decide +kernel
theorem dX1_meetWeir_51 : decode cX1_meetWeir 51 = .ok (.invokestatic 92, 3) := by decide +kernel
theorem dX1_meetWeir_54 : decode cX1_meetWeir 54 = .ok (.invokevirtual 80, 3) := by decide +kernel
theorem dX1_meetWeir_57 : decode cX1_meetWeir 57 = .ok (.isub, 1) := by decide +kernel
theorem dX1_meetWeir_58 : decode cX1_meetWeir 58 = .ok (.istore_n 3, 1) := by decide +kernel
theorem dX1_meetWeir_59 : decode cX1_meetWeir 59 = .ok (.iinc 5 1, 3) := by decide +kernel
theorem dX1_meetWeir_62 : decode cX1_meetWeir 62 = .ok (.goto (-43), 3) := by decide +kernel
theorem dX1_meetWeir_65 : decode cX1_meetWeir 65 = .ok (.iinc 4 1, 3) := by decide +kernel
theorem dX1_meetWeir_68 : decode cX1_meetWeir 68 = .ok (.goto (-58), 3) := by decide +kernel
theorem dX1_meetWeir_71 : decode cX1_meetWeir 71 = .ok (.aload_n 0, 1) := by decide +kernel
theorem dX1_meetWeir_72 : decode cX1_meetWeir 72 = .ok (.getfield 32, 3) := by decide +kernel
theorem dX1_meetWeir_75 : decode cX1_meetWeir 75 = .ok (.iload_n 1, 1) := by decide +kernel
theorem dX1_meetWeir_76 : decode cX1_meetWeir 76 = .ok (.aload_n 0, 1) := by decide +kernel
theorem dX1_meetWeir_77 : decode cX1_meetWeir 77 = .ok (.getfield 32, 3) := by decide +kernel
theorem dX1_meetWeir_80 : decode cX1_meetWeir 80 = .ok (.iload_n 1, 1) := by decide +kernel
theorem dX1_meetWeir_81 : decode cX1_meetWeir 81 = .ok (.invokevirtual 80, 3) := by decide +kernel
theorem dX1_meetWeir_84 : decode cX1_meetWeir 84 = .ok (.iload_n 3, 1) := by decide +kernel
theorem dX1_meetWeir_85 : decode cX1_meetWeir 85 = .ok (.iconst 1, 1) := by decide +kernel
theorem dX1_meetWeir_86 : decode cX1_meetWeir 86 = .ok (.if_icmp .le 7, 3) := by decide +kernel
theorem dX1_meetWeir_89 : decode cX1_meetWeir 89 = .ok (.iload_n 3, 1) := by decide +kernel
theorem dX1_meetWeir_90 : decode cX1_meetWeir 90 = .ok (.goto 4, 3) := by decide +kernel
theorem dX1_meetWeir_93 : decode cX1_meetWeir 93 = .ok (.iconst 1, 1) := by decide +kernel
theorem dX1_meetWeir_94 : decode cX1_meetWeir 94 = .ok (.iadd, 1) := by decide +kernel
theorem dX1_meetWeir_95 : decode cX1_meetWeir 95 = .ok (.invokevirtual 61, 3) := by decide +kernel
theorem dX1_meetWeir_98 : decode cX1_meetWeir 98 = .ok (.aload_n 0, 1) := by decide +kernel
theorem dX1_meetWeir_99 : decode cX1_meetWeir 99 = .ok (.iload_n 1, 1) := by decide +kernel
theorem dX1_meetWeir_100 : decode cX1_meetWeir 100 = .ok (.invokevirtual 89, 3) := by decide +kernel
theorem dX1_meetWeir_103 : decode cX1_meetWeir 103 = .ok (.ifCond .eq 12, 3) := by decide +kernel
theorem dX1_meetWeir_106 : decode cX1_meetWeir 106 = .ok (.aload_n 0, 1) := by decide +kernel
theorem dX1_meetWeir_107 : decode cX1_meetWeir 107 = .ok (.getfield 35, 3) := by decide +kernel
theorem dX1_meetWeir_110 : decode cX1_meetWeir 110 = .ok (.iload_n 1, 1) := by decide +kernel
theorem dX1_meetWeir_111 : decode cX1_meetWeir 111 = .ok (.iconst 0, 1) := by decide +kernel
theorem dX1_meetWeir_112 : decode cX1_meetWeir 112 = .ok (.invokevirtual 61, 3) := by decide +kernel
theorem dX1_meetWeir_115 : decode cX1_meetWeir 115 = .ok (.return_, 1) := by decide +kernel
set_option maxRecDepth 20000 in
theorem ggX1_leave_X1_crowdBy : GoodIn wsX1_leave wsX1_crowdBy := goodIn_r _ [8, 9, 10, 11, 12, 13, 14, 15, 16, 17, 18, 19, 20, 7, 21, 22, 23, 24, 25, 26, 27, 28, 29, 30, 31, 32, 33, 34, 35, 36, 37, 38, 39] (by decide +kernel) (by decide +kernel)
set_option maxRecDepth 20000 in
theorem gX1_leave_X1_crowdBy : GoodIn wsX1_leave (wsV RX1 69 RX1 yX1_crowdBy wsX1_crowdBy) := goodIn_app (goodIn_of _ (by decide +kernel)) ggX1_leave_X1_crowdBy
set_option maxRecDepth 20000 in
theorem ggX1_leave_X2_put : GoodIn wsX1_leave wsX2_put := goodIn_r _ [25, 18, 39] (by decide +kernel) (by decide +kernel)
set_option maxRecDepth 20000 in
theorem gX1_leave_X2_put : GoodIn wsX1_leave (wsV RX1 61 RX2 yX2_put wsX2_put) := goodIn_app (goodIn_of _ (by decide +kernel)) ggX1_leave_X2_put
theorem dX1_leave_0 : decode cX1_leave 0 = .ok (.aload_n 0, 1) := by decide +kernel
theorem dX1_leave_1 : decode cX1_leave 1 = .ok (.iload_n 1, 1) := by decide +kernel
theorem dX1_leave_2 : decode cX1_leave 2 = .ok (.iconst (-1), 1) := by decide +kernel
theorem dX1_leave_3 : decode cX1_leave 3 = .ok (.invokevirtual 69, 3) := by decide +kernel
theorem dX1_leave_6 : decode cX1_leave 6 = .ok (.aload_n 0, 1) := by decide +kernel
theorem dX1_leave_7 : decode cX1_leave 7 = .ok (.getfield 38, 3) := by decide +kernel
theorem dX1_leave_10 : decode cX1_leave 10 = .ok (.iload_n 1, 1) := by decide +kernel
theorem dX1_leave_11 : decode cX1_leave 11 = .ok (.iload_n 2, 1) := by decide +kernel
theorem dX1_leave_12 : decode cX1_leave 12 = .ok (.invokevirtual 61, 3) := by decide +kernel
theorem dX1_leave_15 : decode cX1_leave 15 = .ok (.aload_n 0, 1) := by decide +kernel
theorem dX1_leave_16 : decode cX1_leave 16 = .ok (.getfield 41, 3) := by decide +kernel
theorem dX1_leave_19 : decode cX1_leave 19 = .ok (.iload_n 1, 1) := by decide +kernel
theorem dX1_leave_20 : decode cX1_leave 20 = .ok (.aload_n 0, 1) := by decide +kernel
theorem dX1_leave_21 : decode cX1_leave 21 = .ok (.getfield 58, 3) := by decide +kernel
theorem dX1_leave_24 : decode cX1_leave 24 = .ok (.invokevirtual 61, 3) := by decide +kernel
theorem dX1_leave_27 : decode cX1_leave 27 = .ok (.return_, 1) := by decide +kernel
set_option maxRecDepth 20000 in
theorem ggX1_useWax_X1_isAfloat : GoodIn wsX1_useWax wsX1_isAfloat := goodIn_r _ [8, 9, 10, 11, 12, 7, 13, 1, 14, 15, 16, 17, 18, 19, 20, 21, 22, 31, 32, 33, 34, 35, 36, 37, 38, 39, 40, 41, 42, 43, 44] (by decide +kernel) (by decide +kernel)
set_option maxRecDepth 20000 in
theorem gX1_useWax_X1_isAfloat : GoodIn wsX1_useWax (wsV RX1 111 RX1 yX1_isAfloat wsX1_isAfloat) := goodIn_app (goodIn_of _ (by decide +kernel)) ggX1_useWax_X1_isAfloat
set_option maxRecDepth 20000 in
theorem ggX1_useWax_X1_isBurning : GoodIn wsX1_useWax wsX1_isBurning := goodIn_r _ [26, 3, 10, 11, 12, 7, 13, 1, 14, 15, 16, 17, 18, 19, 20, 21, 22, 31, 32, 33, 34, 35, 36, 37, 38, 39, 40, 41, 42, 43, 44] (by decide +kernel) (by decide +kernel)
set_option maxRecDepth 20000 in
theorem gX1_useWax_X1_isBurning : GoodIn wsX1_useWax (wsV RX1 86 RX1 yX1_isBurning wsX1_isBurning) := goodIn_app (goodIn_of _ (by decide +kernel)) ggX1_useWax_X1_isBurning
set_option maxRecDepth 20000 in
theorem ggX1_useWax_X2_get : GoodIn wsX1_useWax wsX2_get := goodIn_r _ [21, 22, 44] (by decide +kernel) (by decide +kernel)
set_option maxRecDepth 20000 in
theorem gX1_useWax_X2_get : GoodIn wsX1_useWax (wsV RX1 80 RX2 yX2_get wsX2_get) := goodIn_app (goodIn_of _ (by decide +kernel)) ggX1_useWax_X2_get
set_option maxRecDepth 20000 in
theorem ggX1_useWax_X2_put : GoodIn wsX1_useWax wsX2_put := goodIn_r _ [30, 22, 44] (by decide +kernel) (by decide +kernel)
set_option maxRecDepth 20000 in
theorem gX1_useWax_X2_put : GoodIn wsX1_useWax (wsV RX1 61 RX2 yX2_put wsX2_put) := goodIn_app (goodIn_of _ (by decide +kernel)) ggX1_useWax_X2_put
theorem dX1_useWax_0 : decode cX1_useWax 0 = .ok (.iconst 0, 1) := by decide +kernel
theorem dX1_useWax_1 : decode cX1_useWax 1 = .ok (.istore_n 1, 1) := by decide +kernel
theorem dX1_useWax_2 : decode cX1_useWax 2 = .ok (.iload_n 1, 1) := by decide +kernel
theorem dX1_useWax_3 : decode cX1_useWax 3 = .ok (.aload_n 0, 1) := by decide +kernel
theorem dX1_useWax_4 : decode cX1_useWax 4 = .ok (.getfield 54, 3) := by decide +kernel
theorem dX1_useWax_7 : decode cX1_useWax 7 = .ok (.if_icmp .ge 58, 3) := by decide +kernel
theorem dX1_useWax_10 : decode cX1_useWax 10 = .ok (.aload_n 0, 1) := by decide +kernel
theorem dX1_useWax_11 : decode cX1_useWax 11 = .ok (.iload_n 1, 1) := by decide +kernel
theorem dX1_useWax_12 : decode cX1_useWax 12 = .ok (.invokevirtual 111, 3) := by decide +kernel
theorem dX1_useWax_15 : decode cX1_useWax 15 = .ok (.ifCond .eq 44, 3) := by decide +kernel
theorem dX1_useWax_18 : decode cX1_useWax 18 = .ok (.aload_n 0, 1) := by decide +kernel
theorem dX1_useWax_19 : decode cX1_useWax 19 = .ok (.iload_n 1, 1) := by decide +kernel
theorem dX1_useWax_20 : decode cX1_useWax 20 = .ok (.invokevirtual 86, 3) := by decide +kernel
theorem dX1_useWax_23 : decode cX1_useWax 23 = .ok (.ifCond .eq 36, 3) := by decide +kernel
theorem dX1_useWax_26 : decode cX1_useWax 26 = .ok (.aload_n 0, 1) := by decide +kernel
theorem dX1_useWax_27 : decode cX1_useWax 27 = .ok (.getfield 29, 3) := by decide +kernel
theorem dX1_useWax_30 : decode cX1_useWax 30 = .ok (.iload_n 1, 1) := by decide +kernel
theorem dX1_useWax_31 : decode cX1_useWax 31 = .ok (.invokevirtual 80, 3) := by decide +kernel
theorem dX1_useWax_34 : decode cX1_useWax 34 = .ok (.iconst 1, 1) := by decide +kernel
theorem dX1_useWax_35 : decode cX1_useWax 35 = .ok (.isub, 1) := by decide +kernel
theorem dX1_useWax_36 : decode cX1_useWax 36 = .ok (.istore_n 2, 1) := by decide +kernel
theorem dX1_useWax_37 : decode cX1_useWax 37 = .ok (.aload_n 0, 1) := by decide +kernel
theorem dX1_useWax_38 : decode cX1_useWax 38 = .ok (.getfield 29, 3) := by decide +kernel
theorem dX1_useWax_41 : decode cX1_useWax 41 = .ok (.iload_n 1, 1) := by decide +kernel
theorem dX1_useWax_42 : decode cX1_useWax 42 = .ok (.iload_n 2, 1) := by decide +kernel
theorem dX1_useWax_43 : decode cX1_useWax 43 = .ok (.invokevirtual 61, 3) := by decide +kernel
theorem dX1_useWax_46 : decode cX1_useWax 46 = .ok (.iload_n 2, 1) := by decide +kernel
theorem dX1_useWax_47 : decode cX1_useWax 47 = .ok (.ifCond .gt 12, 3) := by decide +kernel
theorem dX1_useWax_50 : decode cX1_useWax 50 = .ok (.aload_n 0, 1) := by decide +kernel
theorem dX1_useWax_51 : decode cX1_useWax 51 = .ok (.getfield 35, 3) := by decide +kernel
theorem dX1_useWax_54 : decode cX1_useWax 54 = .ok (.iload_n 1, 1) := by decide +kernel
theorem dX1_useWax_55 : decode cX1_useWax 55 = .ok (.iconst 0, 1) := by decide +kernel
theorem dX1_useWax_56 : decode cX1_useWax 56 = .ok (.invokevirtual 61, 3) := by decide +kernel
theorem dX1_useWax_59 : decode cX1_useWax 59 = .ok (.iinc 1 1, 3) := by decide +kernel
theorem dX1_useWax_62 : decode cX1_useWax 62 = .ok (.goto (-60), 3) := by decide +kernel
theorem dX1_useWax_65 : decode cX1_useWax 65 = .ok (.return_, 1) := by decide +kernel
set_option maxRecDepth 20000 in
theorem ggX1_crowdBy_X2_get : GoodIn wsX1_crowdBy wsX2_get := goodIn_r _ [9, 10, 32] (by decide +kernel) (by decide +kernel)
set_option maxRecDepth 20000 in
theorem gX1_crowdBy_X2_get : GoodIn wsX1_crowdBy (wsV RX1 80 RX2 yX2_get wsX2_get) := goodIn_app (goodIn_of _ (by decide +kernel)) ggX1_crowdBy_X2_get
set_option maxRecDepth 20000 in
theorem ggX1_crowdBy_X1_cell : GoodIn wsX1_crowdBy wsX1_cell := goodIn_r _ [14] (by decide +kernel) (by decide +kernel)
set_option maxRecDepth 20000 in
theorem gX1_crowdBy_X1_cell : GoodIn wsX1_crowdBy (va_wsS RX1 92 yX1_cell wsX1_cell) := goodIn_app (goodIn_of _ (by decide +kernel)) ggX1_crowdBy_X1_cell
set_option maxRecDepth 20000 in
theorem ggX1_crowdBy_X2_put : GoodIn wsX1_crowdBy wsX2_put := goodIn_r _ [18, 10, 32] (by decide +kernel) (by decide +kernel)
set_option maxRecDepth 20000 in
theorem gX1_crowdBy_X2_put : GoodIn wsX1_crowdBy (wsV RX1 61 RX2 yX2_put wsX2_put) := goodIn_app (goodIn_of _ (by decide +kernel)) ggX1_crowdBy_X2_put
theorem dX1_crowdBy_0 : decode cX1_crowdBy 0 = .ok (.aload_n 0, 1) := by decide +kernel
theorem dX1_crowdBy_1 : decode cX1_crowdBy 1 = .ok (.getfield 23, 3) := by decide +kernel
theorem dX1_crowdBy_4 : decode cX1_crowdBy 4 = .ok (.iload_n 1, 1) := by decide +kernel
theorem dX1_crowdBy_5 : decode cX1_crowdBy 5 = .ok (.invokevirtual 80, 3) := by decide +kernel
theorem dX1_crowdBy_8 : decode cX1_crowdBy 8 = .ok (.aload_n 0, 1) := by decide +kernel
theorem dX1_crowdBy_9 : decode cX1_crowdBy 9 = .ok (.getfield 26, 3) := by decide +kernel
theorem dX1_crowdBy_12 : decode cX1_crowdBy 12 = .ok (.iload_n 1, 1) := by decide +kernel
theorem dX1_crowdBy_13 : decode cX1_crowdBy 13 = .ok (.invokevirtual 80, 3) := by decide +kernel
theorem dX1_crowdBy_16 : decode cX1_crowdBy 16 = .ok (.aload_n 0, 1) := by decide +kernel
theorem dX1_crowdBy_17 : decode cX1_crowdBy 17 = .ok (.getfield 16, 3) := by decide +kernel
theorem dX1_crowdBy_20 : decode cX1_crowdBy 20 = .ok (.iload_n 1, 1) := by decide +kernel
theorem dX1_crowdBy_21 : decode cX1_crowdBy 21 = .ok (.invokevirtual 80, 3) := by decide +kernel
theorem dX1_crowdBy_24 : decode cX1_crowdBy 24 = .ok (.invokestatic 92, 3) := by decide +kernel
theorem dX1_crowdBy_27 : decode cX1_crowdBy 27 = .ok (.istore_n 3, 1) := by decide +kernel
theorem dX1_crowdBy_28 : decode cX1_crowdBy 28 = .ok (.aload_n 0, 1) := by decide +kernel
theorem dX1_crowdBy_29 : decode cX1_crowdBy 29 = .ok (.getfield 44, 3) := by decide +kernel
theorem dX1_crowdBy_32 : decode cX1_crowdBy 32 = .ok (.iload_n 3, 1) := by decide +kernel
theorem dX1_crowdBy_33 : decode cX1_crowdBy 33 = .ok (.aload_n 0, 1) := by decide +kernel
theorem dX1_crowdBy_34 : decode cX1_crowdBy 34 = .ok (.getfield 44, 3) := by decide +kernel
theorem dX1_crowdBy_37 : decode cX1_crowdBy 37 = .ok (.iload_n 3, 1) := by decide +kernel
theorem dX1_crowdBy_38 : decode cX1_crowdBy 38 = .ok (.invokevirtual 80, 3) := by decide +kernel
theorem dX1_crowdBy_41 : decode cX1_crowdBy 41 = .ok (.iload_n 2, 1) := by decide +kernel
theorem dX1_crowdBy_42 : decode cX1_crowdBy 42 = .ok (.iadd, 1) := by decide +kernel
theorem dX1_crowdBy_43 : decode cX1_crowdBy 43 = .ok (.invokevirtual 61, 3) := by decide +kernel
theorem dX1_crowdBy_46 : decode cX1_crowdBy 46 = .ok (.return_, 1) := by decide +kernel
theorem dX1_cell_0 : decode cX1_cell 0 = .ok (.iload_n 1, 1) := by decide +kernel
theorem dX1_cell_1 : decode cX1_cell 1 = .ok (.bipush 60, 2) := by decide +kernel
theorem dX1_cell_3 : decode cX1_cell 3 = .ok (.if_icmp .ge 16, 3) := by decide +kernel
theorem dX1_cell_6 : decode cX1_cell 6 = .ok (.iload_n 0, 1) := by decide +kernel
theorem dX1_cell_7 : decode cX1_cell 7 = .ok (.bipush 60, 2) := by decide +kernel
theorem dX1_cell_9 : decode cX1_cell 9 = .ok (.imul, 1) := by decide +kernel
theorem dX1_cell_10 : decode cX1_cell 10 = .ok (.iload_n 1, 1) := by decide +kernel
theorem dX1_cell_11 : decode cX1_cell 11 = .ok (.iadd, 1) := by decide +kernel
theorem dX1_cell_12 : decode cX1_cell 12 = .ok (.iconst 3, 1) := by decide +kernel
theorem dX1_cell_13 : decode cX1_cell 13 = .ok (.imul, 1) := by decide +kernel
theorem dX1_cell_14 : decode cX1_cell 14 = .ok (.iload_n 2, 1) := by decide +kernel
theorem dX1_cell_15 : decode cX1_cell 15 = .ok (.iadd, 1) := by decide +kernel
theorem dX1_cell_16 : decode cX1_cell 16 = .ok (.goto 4, 3) := by decide +kernel
theorem dX1_cell_19 : decode cX1_cell 19 = .ok (.iconst (-1), 1) := by decide +kernel
theorem dX1_cell_20 : decode cX1_cell 20 = .ok (.ireturn, 1) := by decide +kernel
theorem dX2_init_0 : decode cX2_init 0 = .ok (.aload_n 0, 1) := by decide +kernel
theorem dX2_init_1 : decode cX2_init 1 = .ok (.invokespecial 1, 3) := by decide +kernel
theorem dX2_init_4 : decode cX2_init 4 = .ok (.aload_n 0, 1) := by decide +kernel
theorem dX2_init_5 : decode cX2_init 5 = .ok (.iload_n 1, 1) := by decide +kernel
theorem dX2_init_6 : decode cX2_init 6 = .ok (.ifCond .le 7, 3) := by decide +kernel
theorem dX2_init_9 : decode cX2_init 9 = .ok (.iload_n 1, 1) := by decide +kernel
theorem dX2_init_10 : decode cX2_init 10 = .ok (.goto 4, 3) := by decide +kernel
theorem dX2_init_13 : decode cX2_init 13 = .ok (.iconst 0, 1) := by decide +kernel
theorem dX2_init_14 : decode cX2_init 14 = .ok (.newarray .int, 2) := by decide +kernel
theorem dX2_init_16 : decode cX2_init 16 = .ok (.putfield 7, 3) := by decide +kernel
theorem dX2_init_19 : decode cX2_init 19 = .ok (.return_, 1) := by decide +kernel
theorem dX2_get_0 : decode cX2_get 0 = .ok (.iload_n 1, 1) := by decide +kernel
theorem dX2_get_1 : decode cX2_get 1 = .ok (.ifCond .lt 21, 3) := by decide +kernel
theorem dX2_get_4 : decode cX2_get 4 = .ok (.iload_n 1, 1) := by decide +kernel
theorem dX2_get_5 : decode cX2_get 5 = .ok (.aload_n 0, 1) := by decide +kernel
theorem dX2_get_6 : decode cX2_get 6 = .ok (.getfield 7, 3) := by decide +kernel
theorem dX2_get_9 : decode cX2_get 9 = .ok (.arraylength, 1) := by decide +kernel
theorem dX2_get_10 : decode cX2_get 10 = .ok (.if_icmp .ge 12, 3) := by decide +kernel
theorem dX2_get_13 : decode cX2_get 13 = .ok (.aload_n 0, 1) := by decide +kernel
theorem dX2_get_14 : decode cX2_get 14 = .ok (.getfield 7, 3) := by decide +kernel
theorem dX2_get_17 : decode cX2_get 17 = .ok (.iload_n 1, 1) := by decide +kernel
theorem dX2_get_18 : decode cX2_get 18 = .ok (.iaload, 1) := by decide +kernel
theorem dX2_get_19 : decode cX2_get 19 = .ok (.goto 4, 3) := by decide +kernel
theorem dX2_get_22 : decode cX2_get 22 = .ok (.iconst 0, 1) := by decide +kernel
theorem dX2_get_23 : decode cX2_get 23 = .ok (.ireturn, 1) := by decide +kernel
theorem dX2_put_0 : decode cX2_put 0 = .ok (.iload_n 1, 1) := by decide +kernel
theorem dX2_put_1 : decode cX2_put 1 = .ok (.ifCond .lt 19, 3) := by decide +kernel
theorem dX2_put_4 : decode cX2_put 4 = .ok (.iload_n 1, 1) := by decide +kernel
theorem dX2_put_5 : decode cX2_put 5 = .ok (.aload_n 0, 1) := by decide +kernel
theorem dX2_put_6 : decode cX2_put 6 = .ok (.getfield 7, 3) := by decide +kernel
theorem dX2_put_9 : decode cX2_put 9 = .ok (.arraylength, 1) := by decide +kernel
theorem dX2_put_10 : decode cX2_put 10 = .ok (.if_icmp .ge 10, 3) := by decide +kernel
theorem dX2_put_13 : decode cX2_put 13 = .ok (.aload_n 0, 1) := by decide +kernel
theorem dX2_put_14 : decode cX2_put 14 = .ok (.getfield 7, 3) := by decide +kernel
theorem dX2_put_17 : decode cX2_put 17 = .ok (.iload_n 1, 1) := by decide +kernel
theorem dX2_put_18 : decode cX2_put 18 = .ok (.iload_n 2, 1) := by decide +kernel
theorem dX2_put_19 : decode cX2_put 19 = .ok (.iastore, 1) := by decide +kernel
theorem dX2_put_20 : decode cX2_put 20 = .ok (.return_, 1) := by decide +kernel
set_option maxRecDepth 20000 in
theorem ggX2_copy_X2_get : GoodIn wsX2_copy wsX2_get := goodIn_r _ [6, 1, 7] (by decide +kernel) (by decide +kernel)
set_option maxRecDepth 20000 in
theorem gX2_copy_X2_get : GoodIn wsX2_copy (wsV RX2 13 RX2 yX2_get wsX2_get) := goodIn_app (goodIn_of _ (by decide +kernel)) ggX2_copy_X2_get
theorem dX2_copy_0 : decode cX2_copy 0 = .ok (.iconst 0, 1) := by decide +kernel
theorem dX2_copy_1 : decode cX2_copy 1 = .ok (.istore_n 2, 1) := by decide +kernel
theorem dX2_copy_2 : decode cX2_copy 2 = .ok (.iload_n 2, 1) := by decide +kernel
theorem dX2_copy_3 : decode cX2_copy 3 = .ok (.aload_n 0, 1) := by decide +kernel
theorem dX2_copy_4 : decode cX2_copy 4 = .ok (.getfield 7, 3) := by decide +kernel
theorem dX2_copy_7 : decode cX2_copy 7 = .ok (.arraylength, 1) := by decide +kernel
theorem dX2_copy_8 : decode cX2_copy 8 = .ok (.if_icmp .ge 20, 3) := by decide +kernel
theorem dX2_copy_11 : decode cX2_copy 11 = .ok (.aload_n 0, 1) := by decide +kernel
theorem dX2_copy_12 : decode cX2_copy 12 = .ok (.getfield 7, 3) := by decide +kernel
theorem dX2_copy_15 : decode cX2_copy 15 = .ok (.iload_n 2, 1) := by decide +kernel
theorem dX2_copy_16 : decode cX2_copy 16 = .ok (.aload_n 1, 1) := by decide +kernel
theorem dX2_copy_17 : decode cX2_copy 17 = .ok (.iload_n 2, 1) := by decide +kernel
theorem dX2_copy_18 : decode cX2_copy 18 = .ok (.invokevirtual 13, 3) := by decide +kernel
theorem dX2_copy_21 : decode cX2_copy 21 = .ok (.iastore, 1) := by decide +kernel
theorem dX2_copy_22 : decode cX2_copy 22 = .ok (.iinc 2 1, 3) := by decide +kernel
theorem dX2_copy_25 : decode cX2_copy 25 = .ok (.goto (-23), 3) := by decide +kernel
theorem dX2_copy_28 : decode cX2_copy 28 = .ok (.return_, 1) := by decide +kernel
set_option maxRecDepth 20000 in
theorem ggX3_init_X0_init : GoodIn wsX3_init wsX0_init := goodIn_r _ [15, 16, 2, 3, 17, 18, 19, 20, 21, 22, 23, 24, 25, 26, 27, 28, 29, 30, 31, 32, 70, 49, 50, 51, 52, 53] (by decide +kernel) (by decide +kernel)
set_option maxRecDepth 20000 in
theorem gX3_init_X0_init : GoodIn wsX3_init (wsX0_init) := ggX3_init_X0_init
set_option maxRecDepth 20000 in
theorem ggX3_init_X1_init : GoodIn wsX3_init wsX1_init := goodIn_r _ [34, 35, 2, 3, 36, 18, 19, 37, 38, 39, 40, 41, 42, 43, 44, 45, 46, 47, 48, 24, 25, 26, 27, 28, 70, 57, 58, 59, 60, 61, 62, 63, 64, 65, 66, 67, 68, 69] (by decide +kernel) (by decide +kernel)
set_option maxRecDepth 20000 in
theorem gX3_init_X1_init_n18 : GoodIn wsX3_init (wsX1_init) := ggX3_init_X1_init
theorem dX3_init_0 : decode cX3_init 0 = .ok (.aload_n 0, 1) := by decide +kernel
theorem dX3_init_1 : decode cX3_init 1 = .ok (.invokespecial 1, 3) := by decide +kernel
theorem dX3_init_4 : decode cX3_init 4 = .ok (.aload_n 0, 1) := by decide +kernel
theorem dX3_init_5 : decode cX3_init 5 = .ok (.new 7, 3) := by decide +kernel
theorem dX3_init_8 : decode cX3_init 8 = .ok (.dup, 1) := by decide +kernel
theorem dX3_init_9 : decode cX3_init 9 = .ok (.invokespecial 9, 3) := by decide +kernel
theorem dX3_init_12 : decode cX3_init 12 = .ok (.putfield 10, 3) := by decide +kernel
theorem dX3_init_15 : decode cX3_init 15 = .ok (.aload_n 0, 1) := by decide +kernel
theorem dX3_init_16 : decode cX3_init 16 = .ok (.new 16, 3) := by decide +kernel
theorem dX3_init_19 : decode cX3_init 19 = .ok (.dup, 1) := by decide +kernel
theorem dX3_init_20 : decode cX3_init 20 = .ok (.invokespecial 18, 3) := by decide +kernel
theorem dX3_init_23 : decode cX3_init 23 = .ok (.putfield 19, 3) := by decide +kernel
theorem dX3_init_26 : decode cX3_init 26 = .ok (.aload_n 0, 1) := by decide +kernel
theorem dX3_init_27 : decode cX3_init 27 = .ok (.new 16, 3) := by decide +kernel
theorem dX3_init_30 : decode cX3_init 30 = .ok (.dup, 1) := by decide +kernel
theorem dX3_init_31 : decode cX3_init 31 = .ok (.invokespecial 18, 3) := by decide +kernel
theorem dX3_init_34 : decode cX3_init 34 = .ok (.putfield 23, 3) := by decide +kernel
theorem dX3_init_37 : decode cX3_init 37 = .ok (.return_, 1) := by decide +kernel
set_option maxRecDepth 20000 in
theorem ggX3_setCurrent_X3_isLane : GoodIn wsX3_setCurrent wsX3_isLane := goodIn_r _ [10, 11, 12, 9, 13] (by decide +kernel) (by decide +kernel)
set_option maxRecDepth 20000 in
theorem gX3_setCurrent_X3_isLane : GoodIn wsX3_setCurrent (va_wsS RX3 26 yX3_isLane wsX3_isLane) := goodIn_app (goodIn_of _ (by decide +kernel)) ggX3_setCurrent_X3_isLane
set_option maxRecDepth 20000 in
theorem ggX3_setCurrent_X3_isWithin : GoodIn wsX3_setCurrent wsX3_isWithin := goodIn_r _ [13] (by decide +kernel) (by decide +kernel)
set_option maxRecDepth 20000 in
theorem gX3_setCurrent_X3_isWithin : GoodIn wsX3_setCurrent (va_wsS RX3 37 yX3_isWithin wsX3_isWithin) := goodIn_app (goodIn_of _ (by decide +kernel)) ggX3_setCurrent_X3_isWithin
set_option maxRecDepth 20000 in
theorem ggX3_setCurrent_X2_get : GoodIn wsX3_setCurrent wsX2_get := goodIn_r _ [18, 19, 32] (by decide +kernel) (by decide +kernel)
set_option maxRecDepth 20000 in
theorem gX3_setCurrent_X2_get : GoodIn wsX3_setCurrent (wsV RX3 50 RX2 yX2_get wsX2_get) := goodIn_app (goodIn_of _ (by decide +kernel)) ggX3_setCurrent_X2_get
set_option maxRecDepth 20000 in
theorem ggX3_setCurrent_X2_put : GoodIn wsX3_setCurrent wsX2_put := goodIn_r _ [23, 19, 32] (by decide +kernel) (by decide +kernel)
set_option maxRecDepth 20000 in
theorem gX3_setCurrent_X2_put : GoodIn wsX3_setCurrent (wsV RX3 56 RX2 yX2_put wsX2_put) := goodIn_app (goodIn_of _ (by decide +kernel)) ggX3_setCurrent_X2_put
theorem dX3_setCurrent_0 : decode cX3_setCurrent 0 = .ok (.iload_n 1, 1) := by decide +kernel
theorem dX3_setCurrent_1 : decode cX3_setCurrent 1 = .ok (.invokestatic 26, 3) := by decide +kernel
theorem dX3_setCurrent_4 : decode cX3_setCurrent 4 = .ok (.ifCond .ne 13, 3) := by decide +kernel
theorem dX3_setCurrent_7 : decode cX3_setCurrent 7 = .ok (.new 30, 3) := by decide +kernel
theorem dX3_setCurrent_10 : decode cX3_setCurrent 10 = .ok (.dup, 1) := by decide +kernel
theorem dX3_setCurrent_11 : decode cX3_setCurrent 11 = .ok (.ldc 32, 2) := by decide +kernel
theorem dX3_setCurrent_13 : decode cX3_setCurrent 13 = .ok (.invokespecial 34, 3) := by decide +kernel
theorem dX3_setCurrent_16 : decode cX3_setCurrent 16 = .ok (.athrow, 1) := by decide +kernel
theorem dX3_setCurrent_17 : decode cX3_setCurrent 17 = .ok (.iload_n 2, 1) := by decide +kernel
theorem dX3_setCurrent_18 : decode cX3_setCurrent 18 = .ok (.iconst 1, 1) := by decide +kernel
theorem dX3_setCurrent_19 : decode cX3_setCurrent 19 = .ok (.iconst 5, 1) := by decide +kernel
theorem dX3_setCurrent_20 : decode cX3_setCurrent 20 = .ok (.invokestatic 37, 3) := by decide +kernel
theorem dX3_setCurrent_23 : decode cX3_setCurrent 23 = .ok (.ifCond .ne 13, 3) := by decide +kernel
theorem dX3_setCurrent_26 : decode cX3_setCurrent 26 = .ok (.new 41, 3) := by decide +kernel
theorem dX3_setCurrent_29 : decode cX3_setCurrent 29 = .ok (.dup, 1) := by decide +kernel
theorem dX3_setCurrent_30 : decode cX3_setCurrent 30 = .ok (.ldc 43, 2) := by decide +kernel
theorem dX3_setCurrent_32 : decode cX3_setCurrent 32 = .ok (.invokespecial 45, 3) := by decide +kernel
theorem dX3_setCurrent_35 : decode cX3_setCurrent 35 = .ok (.athrow, 1) := by decide +kernel
theorem dX3_setCurrent_36 : decode cX3_setCurrent 36 = .ok (.aload_n 0, 1) := by decide +kernel
theorem dX3_setCurrent_37 : decode cX3_setCurrent 37 = .ok (.getfield 10, 3) := by decide +kernel
theorem dX3_setCurrent_40 : decode cX3_setCurrent 40 = .ok (.getfield 46, 3) := by decide +kernel
theorem dX3_setCurrent_43 : decode cX3_setCurrent 43 = .ok (.iload_n 1, 1) := by decide +kernel
theorem dX3_setCurrent_44 : decode cX3_setCurrent 44 = .ok (.invokevirtual 50, 3) := by decide +kernel
theorem dX3_setCurrent_47 : decode cX3_setCurrent 47 = .ok (.istore_n 3, 1) := by decide +kernel
theorem dX3_setCurrent_48 : decode cX3_setCurrent 48 = .ok (.aload_n 0, 1) := by decide +kernel
theorem dX3_setCurrent_49 : decode cX3_setCurrent 49 = .ok (.getfield 10, 3) := by decide +kernel
theorem dX3_setCurrent_52 : decode cX3_setCurrent 52 = .ok (.getfield 46, 3) := by decide +kernel
theorem dX3_setCurrent_55 : decode cX3_setCurrent 55 = .ok (.iload_n 1, 1) := by decide +kernel
theorem dX3_setCurrent_56 : decode cX3_setCurrent 56 = .ok (.iload_n 2, 1) := by decide +kernel
theorem dX3_setCurrent_57 : decode cX3_setCurrent 57 = .ok (.invokevirtual 56, 3) := by decide +kernel
theorem dX3_setCurrent_60 : decode cX3_setCurrent 60 = .ok (.iload_n 3, 1) := by decide +kernel
theorem dX3_setCurrent_61 : decode cX3_setCurrent 61 = .ok (.ireturn, 1) := by decide +kernel
set_option maxRecDepth 20000 in
theorem ggX3_weir_X3_isWithin : GoodIn wsX3_weir wsX3_isWithin := goodIn_r _ [13] (by decide +kernel) (by decide +kernel)
set_option maxRecDepth 20000 in
theorem gX3_weir_X3_isWithin : GoodIn wsX3_weir (va_wsS RX3 37 yX3_isWithin wsX3_isWithin) := goodIn_app (goodIn_of _ (by decide +kernel)) ggX3_weir_X3_isWithin
set_option maxRecDepth 20000 in
theorem ggX3_weir_X2_get : GoodIn wsX3_weir wsX2_get := goodIn_r _ [18, 19, 39] (by decide +kernel) (by decide +kernel)
set_option maxRecDepth 20000 in
theorem gX3_weir_X2_get : GoodIn wsX3_weir (wsV RX3 50 RX2 yX2_get wsX2_get) := goodIn_app (goodIn_of _ (by decide +kernel)) ggX3_weir_X2_get
set_option maxRecDepth 20000 in
theorem ggX3_weir_X0_addWeir : GoodIn wsX3_weir wsX0_addWeir := goodIn_r _ [24, 25, 26, 27, 28, 29, 17, 30, 19, 34, 35, 36, 37, 38, 39] (by decide +kernel) (by decide +kernel)
set_option maxRecDepth 20000 in
theorem gX3_weir_X0_addWeir : GoodIn wsX3_weir (wsV RX3 76 RX0 yX0_addWeir wsX0_addWeir) := goodIn_app (goodIn_of _ (by decide +kernel)) ggX3_weir_X0_addWeir
theorem dX3_weir_0 : decode cX3_weir 0 = .ok (.iload_n 1, 1) := by decide +kernel
theorem dX3_weir_1 : decode cX3_weir 1 = .ok (.iconst 1, 1) := by decide +kernel
theorem dX3_weir_2 : decode cX3_weir 2 = .ok (.bipush 59, 2) := by decide +kernel
theorem dX3_weir_4 : decode cX3_weir 4 = .ok (.invokestatic 37, 3) := by decide +kernel
theorem dX3_weir_7 : decode cX3_weir 7 = .ok (.ifCond .ne 13, 3) := by decide +kernel
theorem dX3_weir_10 : decode cX3_weir 10 = .ok (.new 30, 3) := by decide +kernel
theorem dX3_weir_13 : decode cX3_weir 13 = .ok (.dup, 1) := by decide +kernel
theorem dX3_weir_14 : decode cX3_weir 14 = .ok (.ldc 60, 2) := by decide +kernel
theorem dX3_weir_16 : decode cX3_weir 16 = .ok (.invokespecial 34, 3) := by decide +kernel
theorem dX3_weir_19 : decode cX3_weir 19 = .ok (.athrow, 1) := by decide +kernel
theorem dX3_weir_20 : decode cX3_weir 20 = .ok (.iload_n 2, 1) := by decide +kernel
theorem dX3_weir_21 : decode cX3_weir 21 = .ok (.iconst 1, 1) := by decide +kernel
theorem dX3_weir_22 : decode cX3_weir 22 = .ok (.bipush 9, 2) := by decide +kernel
theorem dX3_weir_24 : decode cX3_weir 24 = .ok (.invokestatic 37, 3) := by decide +kernel
theorem dX3_weir_27 : decode cX3_weir 27 = .ok (.ifCond .ne 13, 3) := by decide +kernel
theorem dX3_weir_30 : decode cX3_weir 30 = .ok (.new 41, 3) := by decide +kernel
theorem dX3_weir_33 : decode cX3_weir 33 = .ok (.dup, 1) := by decide +kernel
theorem dX3_weir_34 : decode cX3_weir 34 = .ok (.ldc 62, 2) := by decide +kernel
theorem dX3_weir_36 : decode cX3_weir 36 = .ok (.invokespecial 45, 3) := by decide +kernel
theorem dX3_weir_39 : decode cX3_weir 39 = .ok (.athrow, 1) := by decide +kernel
theorem dX3_weir_40 : decode cX3_weir 40 = .ok (.aload_n 0, 1) := by decide +kernel
theorem dX3_weir_41 : decode cX3_weir 41 = .ok (.getfield 10, 3) := by decide +kernel
theorem dX3_weir_44 : decode cX3_weir 44 = .ok (.getfield 64, 3) := by decide +kernel
theorem dX3_weir_47 : decode cX3_weir 47 = .ok (.bipush 6, 2) := by decide +kernel
theorem dX3_weir_49 : decode cX3_weir 49 = .ok (.if_icmp .ge 17, 3) := by decide +kernel
theorem dX3_weir_52 : decode cX3_weir 52 = .ok (.aload_n 0, 1) := by decide +kernel
theorem dX3_weir_53 : decode cX3_weir 53 = .ok (.getfield 10, 3) := by decide +kernel
theorem dX3_weir_56 : decode cX3_weir 56 = .ok (.getfield 68, 3) := by decide +kernel
theorem dX3_weir_59 : decode cX3_weir 59 = .ok (.iload_n 1, 1) := by decide +kernel
theorem dX3_weir_60 : decode cX3_weir 60 = .ok (.invokevirtual 50, 3) := by decide +kernel
theorem dX3_weir_63 : decode cX3_weir 63 = .ok (.ifCond .le 13, 3) := by decide +kernel
theorem dX3_weir_66 : decode cX3_weir 66 = .ok (.new 71, 3) := by decide +kernel
theorem dX3_weir_69 : decode cX3_weir 69 = .ok (.dup, 1) := by decide +kernel
theorem dX3_weir_70 : decode cX3_weir 70 = .ok (.ldc 73, 2) := by decide +kernel
theorem dX3_weir_72 : decode cX3_weir 72 = .ok (.invokespecial 75, 3) := by decide +kernel
theorem dX3_weir_75 : decode cX3_weir 75 = .ok (.athrow, 1) := by decide +kernel
theorem dX3_weir_76 : decode cX3_weir 76 = .ok (.aload_n 0, 1) := by decide +kernel
theorem dX3_weir_77 : decode cX3_weir 77 = .ok (.getfield 10, 3) := by decide +kernel
theorem dX3_weir_80 : decode cX3_weir 80 = .ok (.iload_n 1, 1) := by decide +kernel
theorem dX3_weir_81 : decode cX3_weir 81 = .ok (.iload_n 2, 1) := by decide +kernel
theorem dX3_weir_82 : decode cX3_weir 82 = .ok (.invokevirtual 76, 3) := by decide +kernel
theorem dX3_weir_85 : decode cX3_weir 85 = .ok (.ireturn, 1) := by decide +kernel
set_option maxRecDepth 20000 in
theorem ggX3_net_X3_isLane : GoodIn wsX3_net wsX3_isLane := goodIn_r _ [10, 11, 12, 9, 13] (by decide +kernel) (by decide +kernel)
set_option maxRecDepth 20000 in
theorem gX3_net_X3_isLane : GoodIn wsX3_net (va_wsS RX3 26 yX3_isLane wsX3_isLane) := goodIn_app (goodIn_of _ (by decide +kernel)) ggX3_net_X3_isLane
set_option maxRecDepth 20000 in
theorem ggX3_net_X3_isWithin : GoodIn wsX3_net wsX3_isWithin := goodIn_r _ [13] (by decide +kernel) (by decide +kernel)
set_option maxRecDepth 20000 in
theorem gX3_net_X3_isWithin : GoodIn wsX3_net (va_wsS RX3 37 yX3_isWithin wsX3_isWithin) := goodIn_app (goodIn_of _ (by decide +kernel)) ggX3_net_X3_isWithin
set_option maxRecDepth 20000 in
theorem ggX3_net_X0_hasNet : GoodIn wsX3_net wsX0_hasNet := goodIn_r _ [18, 19, 20, 21, 22, 23, 24, 25, 38, 39, 40, 41, 42, 43] (by decide +kernel) (by decide +kernel)
set_option maxRecDepth 20000 in
theorem gX3_net_X0_hasNet : GoodIn wsX3_net (wsV RX3 85 RX0 yX0_hasNet wsX0_hasNet) := goodIn_app (goodIn_of _ (by decide +kernel)) ggX3_net_X0_hasNet
set_option maxRecDepth 20000 in
theorem ggX3_net_X0_addNet : GoodIn wsX3_net wsX0_addNet := goodIn_r _ [29, 19, 30, 31, 32, 33, 23, 34, 25, 38, 39, 40, 41, 42, 43] (by decide +kernel) (by decide +kernel)
set_option maxRecDepth 20000 in
theorem gX3_net_X0_addNet : GoodIn wsX3_net (wsV RX3 91 RX0 yX0_addNet wsX0_addNet) := goodIn_app (goodIn_of _ (by decide +kernel)) ggX3_net_X0_addNet
theorem dX3_net_0 : decode cX3_net 0 = .ok (.iload_n 1, 1) := by decide +kernel
theorem dX3_net_1 : decode cX3_net 1 = .ok (.invokestatic 26, 3) := by decide +kernel
theorem dX3_net_4 : decode cX3_net 4 = .ok (.ifCond .eq 13, 3) := by decide +kernel
theorem dX3_net_7 : decode cX3_net 7 = .ok (.iload_n 2, 1) := by decide +kernel
theorem dX3_net_8 : decode cX3_net 8 = .ok (.iconst 1, 1) := by decide +kernel
theorem dX3_net_9 : decode cX3_net 9 = .ok (.bipush 59, 2) := by decide +kernel
theorem dX3_net_11 : decode cX3_net 11 = .ok (.invokestatic 37, 3) := by decide +kernel
theorem dX3_net_14 : decode cX3_net 14 = .ok (.ifCond .ne 13, 3) := by decide +kernel
theorem dX3_net_17 : decode cX3_net 17 = .ok (.new 30, 3) := by decide +kernel
theorem dX3_net_20 : decode cX3_net 20 = .ok (.dup, 1) := by decide +kernel
theorem dX3_net_21 : decode cX3_net 21 = .ok (.ldc 80, 2) := by decide +kernel
theorem dX3_net_23 : decode cX3_net 23 = .ok (.invokespecial 34, 3) := by decide +kernel
theorem dX3_net_26 : decode cX3_net 26 = .ok (.athrow, 1) := by decide +kernel
theorem dX3_net_27 : decode cX3_net 27 = .ok (.aload_n 0, 1) := by decide +kernel
theorem dX3_net_28 : decode cX3_net 28 = .ok (.getfield 10, 3) := by decide +kernel
theorem dX3_net_31 : decode cX3_net 31 = .ok (.getfield 82, 3) := by decide +kernel
theorem dX3_net_34 : decode cX3_net 34 = .ok (.iconst 4, 1) := by decide +kernel
theorem dX3_net_35 : decode cX3_net 35 = .ok (.if_icmp .ge 15, 3) := by decide +kernel
theorem dX3_net_38 : decode cX3_net 38 = .ok (.aload_n 0, 1) := by decide +kernel
theorem dX3_net_39 : decode cX3_net 39 = .ok (.getfield 10, 3) := by decide +kernel
theorem dX3_net_42 : decode cX3_net 42 = .ok (.iload_n 1, 1) := by decide +kernel
theorem dX3_net_43 : decode cX3_net 43 = .ok (.iload_n 2, 1) := by decide +kernel
theorem dX3_net_44 : decode cX3_net 44 = .ok (.invokevirtual 85, 3) := by decide +kernel
theorem dX3_net_47 : decode cX3_net 47 = .ok (.ifCond .eq 13, 3) := by decide +kernel
theorem dX3_net_50 : decode cX3_net 50 = .ok (.new 71, 3) := by decide +kernel
theorem dX3_net_53 : decode cX3_net 53 = .ok (.dup, 1) := by decide +kernel
theorem dX3_net_54 : decode cX3_net 54 = .ok (.ldc 89, 2) := by decide +kernel
theorem dX3_net_56 : decode cX3_net 56 = .ok (.invokespecial 75, 3) := by decide +kernel
theorem dX3_net_59 : decode cX3_net 59 = .ok (.athrow, 1) := by decide +kernel
theorem dX3_net_60 : decode cX3_net 60 = .ok (.aload_n 0, 1) := by decide +kernel
theorem dX3_net_61 : decode cX3_net 61 = .ok (.getfield 10, 3) := by decide +kernel
theorem dX3_net_64 : decode cX3_net 64 = .ok (.iload_n 1, 1) := by decide +kernel
theorem dX3_net_65 : decode cX3_net 65 = .ok (.iload_n 2, 1) := by decide +kernel
theorem dX3_net_66 : decode cX3_net 66 = .ok (.invokevirtual 91, 3) := by decide +kernel
theorem dX3_net_69 : decode cX3_net 69 = .ok (.ireturn, 1) := by decide +kernel
set_option maxRecDepth 20000 in
theorem ggX3_river_X3_isLane : GoodIn wsX3_river wsX3_isLane := goodIn_r _ [6, 7, 8, 5, 9] (by decide +kernel) (by decide +kernel)
set_option maxRecDepth 20000 in
theorem gX3_river_X3_isLane : GoodIn wsX3_river (va_wsS RX3 26 yX3_isLane wsX3_isLane) := goodIn_app (goodIn_of _ (by decide +kernel)) ggX3_river_X3_isLane
set_option maxRecDepth 20000 in
theorem ggX3_river_X3_isPlace : GoodIn wsX3_river wsX3_isPlace := goodIn_r _ [12, 7, 8, 5, 9] (by decide +kernel) (by decide +kernel)
set_option maxRecDepth 20000 in
theorem gX3_river_X3_isPlace : GoodIn wsX3_river (va_wsS RX3 94 yX3_isPlace wsX3_isPlace) := goodIn_app (goodIn_of _ (by decide +kernel)) ggX3_river_X3_isPlace
set_option maxRecDepth 20000 in
theorem ggX3_river_X3_isWithin : GoodIn wsX3_river wsX3_isWithin := goodIn_r _ [9] (by decide +kernel) (by decide +kernel)
set_option maxRecDepth 20000 in
theorem gX3_river_X3_isWithin : GoodIn wsX3_river (va_wsS RX3 37 yX3_isWithin wsX3_isWithin) := goodIn_app (goodIn_of _ (by decide +kernel)) ggX3_river_X3_isWithin
set_option maxRecDepth 20000 in
theorem ggX3_river_X3_riverFact : GoodIn wsX3_river wsX3_riverFact := goodIn_r _ [16, 17, 18, 19, 20, 21, 22, 23, 24, 25, 26, 27, 28, 29, 30, 31, 32, 33, 34, 35, 36, 37, 38, 39, 40, 41, 42, 43, 44, 45, 46, 47, 48, 49, 50, 51, 52, 53, 54, 55, 56, 57, 58, 59, 60, 61, 62, 63, 64, 65, 66, 67, 68, 69, 70, 71, 72] (by decide +kernel) (by decide +kernel)
set_option maxRecDepth 20000 in
theorem gX3_river_X3_riverFact : GoodIn wsX3_river (wsV RX3 99 RX3 yX3_riverFact wsX3_riverFact) := goodIn_app (goodIn_of _ (by decide +kernel)) ggX3_river_X3_riverFact
theorem dX3_river_0 : decode cX3_river 0 = .ok (.iload_n 1, 1) := by decide +kernel
theorem dX3_river_1 : decode cX3_river 1 = .ok (.invokestatic 26, 3) := by decide +kernel
theorem dX3_river_4 : decode cX3_river 4 = .ok (.ifCond .eq 19, 3) := by decide +kernel
theorem dX3_river_7 : decode cX3_river 7 = .ok (.iload_n 2, 1) := by decide +kernel
theorem dX3_river_8 : decode cX3_river 8 = .ok (.invokestatic 94, 3) := by decide +kernel
theorem dX3_river_11 : decode cX3_river 11 = .ok (.ifCond .eq 12, 3) := by decide +kernel
theorem dX3_river_14 : decode cX3_river 14 = .ok (.iload_n 3, 1) := by decide +kernel
theorem dX3_river_15 : decode cX3_river 15 = .ok (.iconst 0, 1) := by decide +kernel
theorem dX3_river_16 : decode cX3_river 16 = .ok (.iconst 3, 1) := by decide +kernel
theorem dX3_river_17 : decode cX3_river 17 = .ok (.invokestatic 37, 3) := by decide +kernel
theorem dX3_river_20 : decode cX3_river 20 = .ok (.ifCond .ne 13, 3) := by decide +kernel
theorem dX3_river_23 : decode cX3_river 23 = .ok (.new 30, 3) := by decide +kernel
theorem dX3_river_26 : decode cX3_river 26 = .ok (.dup, 1) := by decide +kernel
theorem dX3_river_27 : decode cX3_river 27 = .ok (.ldc 97, 2) := by decide +kernel
theorem dX3_river_29 : decode cX3_river 29 = .ok (.invokespecial 34, 3) := by decide +kernel
theorem dX3_river_32 : decode cX3_river 32 = .ok (.athrow, 1) := by decide +kernel
theorem dX3_river_33 : decode cX3_river 33 = .ok (.aload_n 0, 1) := by decide +kernel
theorem dX3_river_34 : decode cX3_river 34 = .ok (.iload_n 1, 1) := by decide +kernel
theorem dX3_river_35 : decode cX3_river 35 = .ok (.iload_n 2, 1) := by decide +kernel
theorem dX3_river_36 : decode cX3_river 36 = .ok (.iload_n 3, 1) := by decide +kernel
theorem dX3_river_37 : decode cX3_river 37 = .ok (.invokevirtual 99, 3) := by decide +kernel
theorem dX3_river_40 : decode cX3_river 40 = .ok (.ireturn, 1) := by decide +kernel
set_option maxRecDepth 20000 in
theorem ggX3_launch_X3_isFrame : GoodIn wsX3_launch wsX3_isFrame := goodIn_r _ [12, 13, 14, 11, 15] (by decide +kernel) (by decide +kernel)
set_option maxRecDepth 20000 in
theorem gX3_launch_X3_isFrame : GoodIn wsX3_launch (va_wsS RX3 103 yX3_isFrame wsX3_isFrame) := goodIn_app (goodIn_of _ (by decide +kernel)) ggX3_launch_X3_isFrame
set_option maxRecDepth 20000 in
theorem ggX3_launch_X3_isLane : GoodIn wsX3_launch wsX3_isLane := goodIn_r _ [18, 13, 14, 11, 15] (by decide +kernel) (by decide +kernel)
set_option maxRecDepth 20000 in
theorem gX3_launch_X3_isLane : GoodIn wsX3_launch (va_wsS RX3 26 yX3_isLane wsX3_isLane) := goodIn_app (goodIn_of _ (by decide +kernel)) ggX3_launch_X3_isLane
set_option maxRecDepth 20000 in
theorem ggX3_launch_X3_isPlace : GoodIn wsX3_launch wsX3_isPlace := goodIn_r _ [21, 13, 14, 11, 15] (by decide +kernel) (by decide +kernel)
set_option maxRecDepth 20000 in
theorem gX3_launch_X3_isPlace : GoodIn wsX3_launch (va_wsS RX3 94 yX3_isPlace wsX3_isPlace) := goodIn_app (goodIn_of _ (by decide +kernel)) ggX3_launch_X3_isPlace
set_option maxRecDepth 20000 in
theorem ggX3_launch_X3_isWithin : GoodIn wsX3_launch wsX3_isWithin := goodIn_r _ [15] (by decide +kernel) (by decide +kernel)
set_option maxRecDepth 20000 in
theorem gX3_launch_X3_isWithin : GoodIn wsX3_launch (va_wsS RX3 37 yX3_isWithin wsX3_isWithin) := goodIn_app (goodIn_of _ (by decide +kernel)) ggX3_launch_X3_isWithin
set_option maxRecDepth 20000 in
theorem ggX3_launch_X1_add : GoodIn wsX3_launch wsX1_add := goodIn_r _ [26, 27, 28, 29, 30, 31, 32, 33, 34, 35, 36, 37, 38, 39, 40, 41, 42, 43, 11, 44, 45, 46, 47, 25, 48, 49, 50, 51, 52, 53, 54, 55, 56, 60, 61, 62, 63, 64, 65, 66, 67, 68, 69, 70, 71, 72, 73] (by decide +kernel) (by decide +kernel)
set_option maxRecDepth 20000 in
theorem gX3_launch_X1_add : GoodIn wsX3_launch (wsV RX3 115 RX1 yX1_add wsX1_add) := goodIn_app (goodIn_of _ (by decide +kernel)) ggX3_launch_X1_add
theorem dX3_launch_0 : decode cX3_launch 0 = .ok (.iload_n 1, 1) := by decide +kernel
theorem dX3_launch_1 : decode cX3_launch 1 = .ok (.invokestatic 103, 3) := by decide +kernel
theorem dX3_launch_4 : decode cX3_launch 4 = .ok (.ifCond .eq 18, 3) := by decide +kernel
theorem dX3_launch_7 : decode cX3_launch 7 = .ok (.iload_n 3, 1) := by decide +kernel
theorem dX3_launch_8 : decode cX3_launch 8 = .ok (.invokestatic 26, 3) := by decide +kernel
theorem dX3_launch_11 : decode cX3_launch 11 = .ok (.ifCond .eq 11, 3) := by decide +kernel
theorem dX3_launch_14 : decode cX3_launch 14 = .ok (.iload 4, 2) := by decide +kernel
theorem dX3_launch_16 : decode cX3_launch 16 = .ok (.invokestatic 94, 3) := by decide +kernel
theorem dX3_launch_19 : decode cX3_launch 19 = .ok (.ifCond .ne 13, 3) := by decide +kernel
theorem dX3_launch_22 : decode cX3_launch 22 = .ok (.new 30, 3) := by decide +kernel
theorem dX3_launch_25 : decode cX3_launch 25 = .ok (.dup, 1) := by decide +kernel
theorem dX3_launch_26 : decode cX3_launch 26 = .ok (.ldc 106, 2) := by decide +kernel
theorem dX3_launch_28 : decode cX3_launch 28 = .ok (.invokespecial 34, 3) := by decide +kernel
theorem dX3_launch_31 : decode cX3_launch 31 = .ok (.athrow, 1) := by decide +kernel
theorem dX3_launch_32 : decode cX3_launch 32 = .ok (.iload_n 2, 1) := by decide +kernel
theorem dX3_launch_33 : decode cX3_launch 33 = .ok (.iconst 0, 1) := by decide +kernel
theorem dX3_launch_34 : decode cX3_launch 34 = .ok (.sipush 999, 3) := by decide +kernel
theorem dX3_launch_37 : decode cX3_launch 37 = .ok (.invokestatic 37, 3) := by decide +kernel
theorem dX3_launch_40 : decode cX3_launch 40 = .ok (.ifCond .ne 13, 3) := by decide +kernel
theorem dX3_launch_43 : decode cX3_launch 43 = .ok (.new 41, 3) := by decide +kernel
theorem dX3_launch_46 : decode cX3_launch 46 = .ok (.dup, 1) := by decide +kernel
theorem dX3_launch_47 : decode cX3_launch 47 = .ok (.ldc 108, 2) := by decide +kernel
theorem dX3_launch_49 : decode cX3_launch 49 = .ok (.invokespecial 45, 3) := by decide +kernel
theorem dX3_launch_52 : decode cX3_launch 52 = .ok (.athrow, 1) := by decide +kernel
theorem dX3_launch_53 : decode cX3_launch 53 = .ok (.aload_n 0, 1) := by decide +kernel
theorem dX3_launch_54 : decode cX3_launch 54 = .ok (.getfield 19, 3) := by decide +kernel
theorem dX3_launch_57 : decode cX3_launch 57 = .ok (.getfield 110, 3) := by decide +kernel
theorem dX3_launch_60 : decode cX3_launch 60 = .ok (.bipush 40, 2) := by decide +kernel
theorem dX3_launch_62 : decode cX3_launch 62 = .ok (.if_icmp .lt 13, 3) := by decide +kernel
theorem dX3_launch_65 : decode cX3_launch 65 = .ok (.new 71, 3) := by decide +kernel
theorem dX3_launch_68 : decode cX3_launch 68 = .ok (.dup, 1) := by decide +kernel
theorem dX3_launch_69 : decode cX3_launch 69 = .ok (.ldc 113, 2) := by decide +kernel
theorem dX3_launch_71 : decode cX3_launch 71 = .ok (.invokespecial 75, 3) := by decide +kernel
theorem dX3_launch_74 : decode cX3_launch 74 = .ok (.athrow, 1) := by decide +kernel
theorem dX3_launch_75 : decode cX3_launch 75 = .ok (.aload_n 0, 1) := by decide +kernel
theorem dX3_launch_76 : decode cX3_launch 76 = .ok (.getfield 19, 3) := by decide +kernel
theorem dX3_launch_79 : decode cX3_launch 79 = .ok (.iload_n 1, 1) := by decide +kernel
theorem dX3_launch_80 : decode cX3_launch 80 = .ok (.iload_n 2, 1) := by decide +kernel
theorem dX3_launch_81 : decode cX3_launch 81 = .ok (.iload_n 3, 1) := by decide +kernel
theorem dX3_launch_82 : decode cX3_launch 82 = .ok (.iload 4, 2) := by decide +kernel
theorem dX3_launch_84 : decode cX3_launch 84 = .ok (.invokevirtual 115, 3) := by decide +kernel
theorem dX3_launch_87 : decode cX3_launch 87 = .ok (.ireturn, 1) := by decide +kernel
set_option maxRecDepth 20000 in
theorem ggX3_push_X1_has : GoodIn wsX3_push wsX1_has := goodIn_r _ [12, 13, 14, 15, 16, 56, 57, 58, 59, 60, 61, 62, 63, 64, 65, 66, 67, 68] (by decide +kernel) (by decide +kernel)
set_option maxRecDepth 20000 in
theorem gX3_push_X1_has : GoodIn wsX3_push (wsV RX3 119 RX1 yX1_has wsX1_has) := goodIn_app (goodIn_of _ (by decide +kernel)) ggX3_push_X1_has
set_option maxRecDepth 20000 in
theorem ggX3_push_X3_isLane : GoodIn wsX3_push wsX3_isLane := goodIn_r _ [19, 20, 14, 15, 16] (by decide +kernel) (by decide +kernel)
set_option maxRecDepth 20000 in
theorem gX3_push_X3_isLane : GoodIn wsX3_push (va_wsS RX3 26 yX3_isLane wsX3_isLane) := goodIn_app (goodIn_of _ (by decide +kernel)) ggX3_push_X3_isLane
set_option maxRecDepth 20000 in
theorem ggX3_push_X1_isAfloat : GoodIn wsX3_push wsX1_isAfloat := goodIn_r _ [24, 25, 26, 9, 10, 11, 12, 13, 14, 15, 16, 27, 28, 29, 30, 31, 32, 56, 57, 58, 59, 60, 61, 62, 63, 64, 65, 66, 67, 68, 69] (by decide +kernel) (by decide +kernel)
set_option maxRecDepth 20000 in
theorem gX3_push_X1_isAfloat : GoodIn wsX3_push (wsV RX3 124 RX1 yX1_isAfloat wsX1_isAfloat) := goodIn_app (goodIn_of _ (by decide +kernel)) ggX3_push_X1_isAfloat
set_option maxRecDepth 20000 in
theorem ggX3_push_X2_get : GoodIn wsX3_push wsX2_get := goodIn_r _ [31, 32, 69] (by decide +kernel) (by decide +kernel)
set_option maxRecDepth 20000 in
theorem gX3_push_X2_get : GoodIn wsX3_push (wsV RX3 50 RX2 yX2_get wsX2_get) := goodIn_app (goodIn_of _ (by decide +kernel)) ggX3_push_X2_get
set_option maxRecDepth 20000 in
theorem ggX3_push_X1_moveTo : GoodIn wsX3_push wsX1_moveTo := goodIn_r _ [37, 38, 39, 40, 41, 42, 11, 43, 44, 45, 27, 28, 29, 30, 31, 32, 46, 47, 48, 49, 50, 51, 52, 56, 57, 58, 59, 60, 61, 62, 63, 64, 65, 66, 67, 68, 69] (by decide +kernel) (by decide +kernel)
set_option maxRecDepth 20000 in
theorem gX3_push_X1_moveTo : GoodIn wsX3_push (wsV RX3 135 RX1 yX1_moveTo wsX1_moveTo) := goodIn_app (goodIn_of _ (by decide +kernel)) ggX3_push_X1_moveTo
theorem dX3_push_0 : decode cX3_push 0 = .ok (.aload_n 0, 1) := by decide +kernel
theorem dX3_push_1 : decode cX3_push 1 = .ok (.getfield 19, 3) := by decide +kernel
theorem dX3_push_4 : decode cX3_push 4 = .ok (.iload_n 1, 1) := by decide +kernel
theorem dX3_push_5 : decode cX3_push 5 = .ok (.invokevirtual 119, 3) := by decide +kernel
theorem dX3_push_8 : decode cX3_push 8 = .ok (.ifCond .eq 10, 3) := by decide +kernel
theorem dX3_push_11 : decode cX3_push 11 = .ok (.iload_n 2, 1) := by decide +kernel
theorem dX3_push_12 : decode cX3_push 12 = .ok (.invokestatic 26, 3) := by decide +kernel
theorem dX3_push_15 : decode cX3_push 15 = .ok (.ifCond .ne 13, 3) := by decide +kernel
theorem dX3_push_18 : decode cX3_push 18 = .ok (.new 30, 3) := by decide +kernel
theorem dX3_push_21 : decode cX3_push 21 = .ok (.dup, 1) := by decide +kernel
theorem dX3_push_22 : decode cX3_push 22 = .ok (.ldc 122, 2) := by decide +kernel
theorem dX3_push_24 : decode cX3_push 24 = .ok (.invokespecial 34, 3) := by decide +kernel
theorem dX3_push_27 : decode cX3_push 27 = .ok (.athrow, 1) := by decide +kernel
theorem dX3_push_28 : decode cX3_push 28 = .ok (.aload_n 0, 1) := by decide +kernel
theorem dX3_push_29 : decode cX3_push 29 = .ok (.getfield 19, 3) := by decide +kernel
theorem dX3_push_32 : decode cX3_push 32 = .ok (.iload_n 1, 1) := by decide +kernel
theorem dX3_push_33 : decode cX3_push 33 = .ok (.invokevirtual 124, 3) := by decide +kernel
theorem dX3_push_36 : decode cX3_push 36 = .ok (.ifCond .ne 13, 3) := by decide +kernel
theorem dX3_push_39 : decode cX3_push 39 = .ok (.new 71, 3) := by decide +kernel
theorem dX3_push_42 : decode cX3_push 42 = .ok (.dup, 1) := by decide +kernel
theorem dX3_push_43 : decode cX3_push 43 = .ok (.ldc 127, 2) := by decide +kernel
theorem dX3_push_45 : decode cX3_push 45 = .ok (.invokespecial 75, 3) := by decide +kernel
theorem dX3_push_48 : decode cX3_push 48 = .ok (.athrow, 1) := by decide +kernel
theorem dX3_push_49 : decode cX3_push 49 = .ok (.aload_n 0, 1) := by decide +kernel
theorem dX3_push_50 : decode cX3_push 50 = .ok (.getfield 19, 3) := by decide +kernel
theorem dX3_push_53 : decode cX3_push 53 = .ok (.getfield 129, 3) := by decide +kernel
theorem dX3_push_56 : decode cX3_push 56 = .ok (.iload_n 1, 1) := by decide +kernel
theorem dX3_push_57 : decode cX3_push 57 = .ok (.invokevirtual 50, 3) := by decide +kernel
theorem dX3_push_60 : decode cX3_push 60 = .ok (.istore_n 3, 1) := by decide +kernel
theorem dX3_push_61 : decode cX3_push 61 = .ok (.aload_n 0, 1) := by decide +kernel
theorem dX3_push_62 : decode cX3_push 62 = .ok (.getfield 19, 3) := by decide +kernel
theorem dX3_push_65 : decode cX3_push 65 = .ok (.iload_n 1, 1) := by decide +kernel
theorem dX3_push_66 : decode cX3_push 66 = .ok (.iload_n 2, 1) := by decide +kernel
theorem dX3_push_67 : decode cX3_push 67 = .ok (.aload_n 0, 1) := by decide +kernel
theorem dX3_push_68 : decode cX3_push 68 = .ok (.getfield 19, 3) := by decide +kernel
theorem dX3_push_71 : decode cX3_push 71 = .ok (.getfield 132, 3) := by decide +kernel
theorem dX3_push_74 : decode cX3_push 74 = .ok (.iload_n 1, 1) := by decide +kernel
theorem dX3_push_75 : decode cX3_push 75 = .ok (.invokevirtual 50, 3) := by decide +kernel
theorem dX3_push_78 : decode cX3_push 78 = .ok (.invokevirtual 135, 3) := by decide +kernel
theorem dX3_push_81 : decode cX3_push 81 = .ok (.iload_n 3, 1) := by decide +kernel
theorem dX3_push_82 : decode cX3_push 82 = .ok (.ireturn, 1) := by decide +kernel
set_option maxRecDepth 20000 in
theorem ggX3_light_X1_has : GoodIn wsX3_light wsX1_has := goodIn_r _ [12, 13, 14, 15, 16, 55, 56, 57, 58, 59, 60, 61, 62, 63, 64, 65, 66, 67] (by decide +kernel) (by decide +kernel)
set_option maxRecDepth 20000 in
theorem gX3_light_X1_has : GoodIn wsX3_light (wsV RX3 119 RX1 yX1_has wsX1_has) := goodIn_app (goodIn_of _ (by decide +kernel)) ggX3_light_X1_has
set_option maxRecDepth 20000 in
theorem ggX3_light_X1_isAfloat : GoodIn wsX3_light wsX1_isAfloat := goodIn_r _ [20, 21, 22, 9, 10, 11, 12, 13, 14, 15, 16, 23, 24, 25, 26, 27, 28, 55, 56, 57, 58, 59, 60, 61, 62, 63, 64, 65, 66, 67, 68] (by decide +kernel) (by decide +kernel)
set_option maxRecDepth 20000 in
theorem gX3_light_X1_isAfloat : GoodIn wsX3_light (wsV RX3 124 RX1 yX1_isAfloat wsX1_isAfloat) := goodIn_app (goodIn_of _ (by decide +kernel)) ggX3_light_X1_isAfloat
set_option maxRecDepth 20000 in
theorem ggX3_light_X1_canBeLit : GoodIn wsX3_light wsX1_canBeLit := goodIn_r _ [32, 33, 34, 35, 36, 11, 37, 38, 22, 9, 10, 12, 13, 14, 15, 16, 23, 24, 25, 26, 27, 28, 39, 40, 41, 42, 43, 44, 45, 46, 55, 56, 57, 58, 59, 60, 61, 62, 63, 64, 65, 66, 67, 68] (by decide +kernel) (by decide +kernel)
set_option maxRecDepth 20000 in
theorem gX3_light_X1_canBeLit : GoodIn wsX3_light (wsV RX3 141 RX1 yX1_canBeLit wsX1_canBeLit) := goodIn_app (goodIn_of _ (by decide +kernel)) ggX3_light_X1_canBeLit
set_option maxRecDepth 20000 in
theorem ggX3_light_X2_put : GoodIn wsX3_light wsX2_put := goodIn_r _ [50, 28, 68] (by decide +kernel) (by decide +kernel)
set_option maxRecDepth 20000 in
theorem gX3_light_X2_put : GoodIn wsX3_light (wsV RX3 56 RX2 yX2_put wsX2_put) := goodIn_app (goodIn_of _ (by decide +kernel)) ggX3_light_X2_put
set_option maxRecDepth 20000 in
theorem ggX3_light_X2_get : GoodIn wsX3_light wsX2_get := goodIn_r _ [27, 28, 68] (by decide +kernel) (by decide +kernel)
set_option maxRecDepth 20000 in
theorem gX3_light_X2_get : GoodIn wsX3_light (wsV RX3 50 RX2 yX2_get wsX2_get) := goodIn_app (goodIn_of _ (by decide +kernel)) ggX3_light_X2_get
theorem dX3_light_0 : decode cX3_light 0 = .ok (.aload_n 0, 1) := by decide +kernel
theorem dX3_light_1 : decode cX3_light 1 = .ok (.getfield 19, 3) := by decide +kernel
theorem dX3_light_4 : decode cX3_light 4 = .ok (.iload_n 1, 1) := by decide +kernel
theorem dX3_light_5 : decode cX3_light 5 = .ok (.invokevirtual 119, 3) := by decide +kernel
theorem dX3_light_8 : decode cX3_light 8 = .ok (.ifCond .ne 13, 3) := by decide +kernel
theorem dX3_light_11 : decode cX3_light 11 = .ok (.new 30, 3) := by decide +kernel
theorem dX3_light_14 : decode cX3_light 14 = .ok (.dup, 1) := by decide +kernel
theorem dX3_light_15 : decode cX3_light 15 = .ok (.ldc 139, 2) := by decide +kernel
theorem dX3_light_17 : decode cX3_light 17 = .ok (.invokespecial 34, 3) := by decide +kernel
theorem dX3_light_20 : decode cX3_light 20 = .ok (.athrow, 1) := by decide +kernel
theorem dX3_light_21 : decode cX3_light 21 = .ok (.aload_n 0, 1) := by decide +kernel
theorem dX3_light_22 : decode cX3_light 22 = .ok (.getfield 19, 3) := by decide +kernel
theorem dX3_light_25 : decode cX3_light 25 = .ok (.iload_n 1, 1) := by decide +kernel
theorem dX3_light_26 : decode cX3_light 26 = .ok (.invokevirtual 124, 3) := by decide +kernel
theorem dX3_light_29 : decode cX3_light 29 = .ok (.ifCond .eq 14, 3) := by decide +kernel
theorem dX3_light_32 : decode cX3_light 32 = .ok (.aload_n 0, 1) := by decide +kernel
theorem dX3_light_33 : decode cX3_light 33 = .ok (.getfield 19, 3) := by decide +kernel
theorem dX3_light_36 : decode cX3_light 36 = .ok (.iload_n 1, 1) := by decide +kernel
theorem dX3_light_37 : decode cX3_light 37 = .ok (.invokevirtual 141, 3) := by decide +kernel
theorem dX3_light_40 : decode cX3_light 40 = .ok (.ifCond .ne 13, 3) := by decide +kernel
theorem dX3_light_43 : decode cX3_light 43 = .ok (.new 71, 3) := by decide +kernel
theorem dX3_light_46 : decode cX3_light 46 = .ok (.dup, 1) := by decide +kernel
theorem dX3_light_47 : decode cX3_light 47 = .ok (.ldc 144, 2) := by decide +kernel
theorem dX3_light_49 : decode cX3_light 49 = .ok (.invokespecial 75, 3) := by decide +kernel
theorem dX3_light_52 : decode cX3_light 52 = .ok (.athrow, 1) := by decide +kernel
theorem dX3_light_53 : decode cX3_light 53 = .ok (.aload_n 0, 1) := by decide +kernel
theorem dX3_light_54 : decode cX3_light 54 = .ok (.getfield 19, 3) := by decide +kernel
theorem dX3_light_57 : decode cX3_light 57 = .ok (.getfield 146, 3) := by decide +kernel
theorem dX3_light_60 : decode cX3_light 60 = .ok (.iload_n 1, 1) := by decide +kernel
theorem dX3_light_61 : decode cX3_light 61 = .ok (.iconst 1, 1) := by decide +kernel
theorem dX3_light_62 : decode cX3_light 62 = .ok (.invokevirtual 56, 3) := by decide +kernel
theorem dX3_light_65 : decode cX3_light 65 = .ok (.aload_n 0, 1) := by decide +kernel
theorem dX3_light_66 : decode cX3_light 66 = .ok (.getfield 19, 3) := by decide +kernel
theorem dX3_light_69 : decode cX3_light 69 = .ok (.getfield 149, 3) := by decide +kernel
theorem dX3_light_72 : decode cX3_light 72 = .ok (.iload_n 1, 1) := by decide +kernel
theorem dX3_light_73 : decode cX3_light 73 = .ok (.invokevirtual 50, 3) := by decide +kernel
theorem dX3_light_76 : decode cX3_light 76 = .ok (.ireturn, 1) := by decide +kernel
set_option maxRecDepth 20000 in
theorem ggX3_blow_X1_has : GoodIn wsX3_blow wsX1_has := goodIn_r _ [12, 13, 14, 15, 16, 42, 43, 44, 45, 46, 47, 48, 49, 50, 51, 52, 53, 54] (by decide +kernel) (by decide +kernel)
set_option maxRecDepth 20000 in
theorem gX3_blow_X1_has : GoodIn wsX3_blow (wsV RX3 119 RX1 yX1_has wsX1_has) := goodIn_app (goodIn_of _ (by decide +kernel)) ggX3_blow_X1_has
set_option maxRecDepth 20000 in
theorem ggX3_blow_X1_isAfloat : GoodIn wsX3_blow wsX1_isAfloat := goodIn_r _ [20, 21, 22, 9, 10, 11, 12, 13, 14, 15, 16, 23, 24, 25, 26, 27, 28, 42, 43, 44, 45, 46, 47, 48, 49, 50, 51, 52, 53, 54, 55] (by decide +kernel) (by decide +kernel)
set_option maxRecDepth 20000 in
theorem gX3_blow_X1_isAfloat : GoodIn wsX3_blow (wsV RX3 124 RX1 yX1_isAfloat wsX1_isAfloat) := goodIn_app (goodIn_of _ (by decide +kernel)) ggX3_blow_X1_isAfloat
set_option maxRecDepth 20000 in
theorem ggX3_blow_X1_isBurning : GoodIn wsX3_blow wsX1_isBurning := goodIn_r _ [32, 33, 22, 9, 10, 11, 12, 13, 14, 15, 16, 23, 24, 25, 26, 27, 28, 42, 43, 44, 45, 46, 47, 48, 49, 50, 51, 52, 53, 54, 55] (by decide +kernel) (by decide +kernel)
set_option maxRecDepth 20000 in
theorem gX3_blow_X1_isBurning : GoodIn wsX3_blow (wsV RX3 152 RX1 yX1_isBurning wsX1_isBurning) := goodIn_app (goodIn_of _ (by decide +kernel)) ggX3_blow_X1_isBurning
set_option maxRecDepth 20000 in
theorem ggX3_blow_X2_put : GoodIn wsX3_blow wsX2_put := goodIn_r _ [37, 28, 55] (by decide +kernel) (by decide +kernel)
set_option maxRecDepth 20000 in
theorem gX3_blow_X2_put : GoodIn wsX3_blow (wsV RX3 56 RX2 yX2_put wsX2_put) := goodIn_app (goodIn_of _ (by decide +kernel)) ggX3_blow_X2_put
set_option maxRecDepth 20000 in
theorem ggX3_blow_X2_get : GoodIn wsX3_blow wsX2_get := goodIn_r _ [27, 28, 55] (by decide +kernel) (by decide +kernel)
set_option maxRecDepth 20000 in
theorem gX3_blow_X2_get : GoodIn wsX3_blow (wsV RX3 50 RX2 yX2_get wsX2_get) := goodIn_app (goodIn_of _ (by decide +kernel)) ggX3_blow_X2_get
theorem dX3_blow_0 : decode cX3_blow 0 = .ok (.aload_n 0, 1) := by decide +kernel
theorem dX3_blow_1 : decode cX3_blow 1 = .ok (.getfield 19, 3) := by decide +kernel
theorem dX3_blow_4 : decode cX3_blow 4 = .ok (.iload_n 1, 1) := by decide +kernel
theorem dX3_blow_5 : decode cX3_blow 5 = .ok (.invokevirtual 119, 3) := by decide +kernel
theorem dX3_blow_8 : decode cX3_blow 8 = .ok (.ifCond .ne 13, 3) := by decide +kernel
theorem dX3_blow_11 : decode cX3_blow 11 = .ok (.new 30, 3) := by decide +kernel
theorem dX3_blow_14 : decode cX3_blow 14 = .ok (.dup, 1) := by decide +kernel
theorem dX3_blow_15 : decode cX3_blow 15 = .ok (.ldc 139, 2) := by decide +kernel
theorem dX3_blow_17 : decode cX3_blow 17 = .ok (.invokespecial 34, 3) := by decide +kernel
theorem dX3_blow_20 : decode cX3_blow 20 = .ok (.athrow, 1) := by decide +kernel
theorem dX3_blow_21 : decode cX3_blow 21 = .ok (.aload_n 0, 1) := by decide +kernel
theorem dX3_blow_22 : decode cX3_blow 22 = .ok (.getfield 19, 3) := by decide +kernel
theorem dX3_blow_25 : decode cX3_blow 25 = .ok (.iload_n 1, 1) := by decide +kernel
theorem dX3_blow_26 : decode cX3_blow 26 = .ok (.invokevirtual 124, 3) := by decide +kernel
theorem dX3_blow_29 : decode cX3_blow 29 = .ok (.ifCond .eq 14, 3) := by decide +kernel
theorem dX3_blow_32 : decode cX3_blow 32 = .ok (.aload_n 0, 1) := by decide +kernel
theorem dX3_blow_33 : decode cX3_blow 33 = .ok (.getfield 19, 3) := by decide +kernel
theorem dX3_blow_36 : decode cX3_blow 36 = .ok (.iload_n 1, 1) := by decide +kernel
theorem dX3_blow_37 : decode cX3_blow 37 = .ok (.invokevirtual 152, 3) := by decide +kernel
theorem dX3_blow_40 : decode cX3_blow 40 = .ok (.ifCond .ne 13, 3) := by decide +kernel
theorem dX3_blow_43 : decode cX3_blow 43 = .ok (.new 71, 3) := by decide +kernel
theorem dX3_blow_46 : decode cX3_blow 46 = .ok (.dup, 1) := by decide +kernel
theorem dX3_blow_47 : decode cX3_blow 47 = .ok (.ldc 155, 2) := by decide +kernel
theorem dX3_blow_49 : decode cX3_blow 49 = .ok (.invokespecial 75, 3) := by decide +kernel
theorem dX3_blow_52 : decode cX3_blow 52 = .ok (.athrow, 1) := by decide +kernel
theorem dX3_blow_53 : decode cX3_blow 53 = .ok (.aload_n 0, 1) := by decide +kernel
theorem dX3_blow_54 : decode cX3_blow 54 = .ok (.getfield 19, 3) := by decide +kernel
theorem dX3_blow_57 : decode cX3_blow 57 = .ok (.getfield 146, 3) := by decide +kernel
theorem dX3_blow_60 : decode cX3_blow 60 = .ok (.iload_n 1, 1) := by decide +kernel
theorem dX3_blow_61 : decode cX3_blow 61 = .ok (.iconst 0, 1) := by decide +kernel
theorem dX3_blow_62 : decode cX3_blow 62 = .ok (.invokevirtual 56, 3) := by decide +kernel
theorem dX3_blow_65 : decode cX3_blow 65 = .ok (.aload_n 0, 1) := by decide +kernel
theorem dX3_blow_66 : decode cX3_blow 66 = .ok (.getfield 19, 3) := by decide +kernel
theorem dX3_blow_69 : decode cX3_blow 69 = .ok (.getfield 149, 3) := by decide +kernel
theorem dX3_blow_72 : decode cX3_blow 72 = .ok (.iload_n 1, 1) := by decide +kernel
theorem dX3_blow_73 : decode cX3_blow 73 = .ok (.invokevirtual 50, 3) := by decide +kernel
theorem dX3_blow_76 : decode cX3_blow 76 = .ok (.ireturn, 1) := by decide +kernel
set_option maxRecDepth 20000 in
theorem ggX3_told_X1_has : GoodIn wsX3_told wsX1_has := goodIn_r _ [8, 9, 10, 11, 12, 36, 37, 38, 39, 40, 41, 42, 43, 44, 45, 46, 47, 48] (by decide +kernel) (by decide +kernel)
set_option maxRecDepth 20000 in
theorem gX3_told_X1_has : GoodIn wsX3_told (wsV RX3 119 RX1 yX1_has wsX1_has) := goodIn_app (goodIn_of _ (by decide +kernel)) ggX3_told_X1_has
set_option maxRecDepth 20000 in
theorem ggX3_told_X3_isWithin : GoodIn wsX3_told wsX3_isWithin := goodIn_r _ [12] (by decide +kernel) (by decide +kernel)
set_option maxRecDepth 20000 in
theorem gX3_told_X3_isWithin : GoodIn wsX3_told (va_wsS RX3 37 yX3_isWithin wsX3_isWithin) := goodIn_app (goodIn_of _ (by decide +kernel)) ggX3_told_X3_isWithin
set_option maxRecDepth 20000 in
theorem ggX3_told_X1_fact : GoodIn wsX3_told wsX1_fact := goodIn_r _ [17, 18, 19, 20, 21, 22, 23, 24, 25, 26, 27, 28, 29, 30, 31, 32, 36, 37, 38, 39, 40, 41, 42, 43, 44, 45, 46, 47, 48, 49] (by decide +kernel) (by decide +kernel)
set_option maxRecDepth 20000 in
theorem gX3_told_X1_fact : GoodIn wsX3_told (wsV RX3 159 RX1 yX1_fact wsX1_fact) := goodIn_app (goodIn_of _ (by decide +kernel)) ggX3_told_X1_fact
theorem dX3_told_0 : decode cX3_told 0 = .ok (.aload_n 0, 1) := by decide +kernel
theorem dX3_told_1 : decode cX3_told 1 = .ok (.getfield 19, 3) := by decide +kernel
theorem dX3_told_4 : decode cX3_told 4 = .ok (.iload_n 1, 1) := by decide +kernel
theorem dX3_told_5 : decode cX3_told 5 = .ok (.invokevirtual 119, 3) := by decide +kernel
theorem dX3_told_8 : decode cX3_told 8 = .ok (.ifCond .eq 13, 3) := by decide +kernel
theorem dX3_told_11 : decode cX3_told 11 = .ok (.iload_n 2, 1) := by decide +kernel
theorem dX3_told_12 : decode cX3_told 12 = .ok (.iconst 0, 1) := by decide +kernel
theorem dX3_told_13 : decode cX3_told 13 = .ok (.bipush 8, 2) := by decide +kernel
theorem dX3_told_15 : decode cX3_told 15 = .ok (.invokestatic 37, 3) := by decide +kernel
theorem dX3_told_18 : decode cX3_told 18 = .ok (.ifCond .ne 13, 3) := by decide +kernel
theorem dX3_told_21 : decode cX3_told 21 = .ok (.new 30, 3) := by decide +kernel
theorem dX3_told_24 : decode cX3_told 24 = .ok (.dup, 1) := by decide +kernel
theorem dX3_told_25 : decode cX3_told 25 = .ok (.ldc 157, 2) := by decide +kernel
theorem dX3_told_27 : decode cX3_told 27 = .ok (.invokespecial 34, 3) := by decide +kernel
theorem dX3_told_30 : decode cX3_told 30 = .ok (.athrow, 1) := by decide +kernel
theorem dX3_told_31 : decode cX3_told 31 = .ok (.aload_n 0, 1) := by decide +kernel
theorem dX3_told_32 : decode cX3_told 32 = .ok (.getfield 19, 3) := by decide +kernel
theorem dX3_told_35 : decode cX3_told 35 = .ok (.iload_n 1, 1) := by decide +kernel
theorem dX3_told_36 : decode cX3_told 36 = .ok (.iload_n 2, 1) := by decide +kernel
theorem dX3_told_37 : decode cX3_told 37 = .ok (.invokevirtual 159, 3) := by decide +kernel
theorem dX3_told_40 : decode cX3_told 40 = .ok (.ireturn, 1) := by decide +kernel
set_option maxRecDepth 20000 in
theorem ggX3_next_X1_has : GoodIn wsX3_next wsX1_has := goodIn_r _ [8, 9, 10, 11, 12, 36, 37, 38, 39, 40, 41, 42, 43, 44, 45, 46, 47, 48] (by decide +kernel) (by decide +kernel)
set_option maxRecDepth 20000 in
theorem gX3_next_X1_has : GoodIn wsX3_next (wsV RX3 119 RX1 yX1_has wsX1_has) := goodIn_app (goodIn_of _ (by decide +kernel)) ggX3_next_X1_has
set_option maxRecDepth 20000 in
theorem ggX3_next_X3_nextWeir : GoodIn wsX3_next wsX3_nextWeir := goodIn_r _ [16, 3, 17, 18, 19, 20, 21, 22, 7, 23, 24, 25, 5, 6, 8, 9, 10, 11, 12, 26, 27, 28, 29, 30, 31, 32, 33, 34, 35, 36, 37, 38, 39, 40, 41, 42, 43, 44, 45, 46, 47, 48, 49, 50, 51, 52, 53, 54] (by decide +kernel) (by decide +kernel)
set_option maxRecDepth 20000 in
theorem gX3_next_X3_nextWeir : GoodIn wsX3_next (wsV RX3 162 RX3 yX3_nextWeir wsX3_nextWeir) := goodIn_app (goodIn_of _ (by decide +kernel)) ggX3_next_X3_nextWeir
theorem dX3_next_0 : decode cX3_next 0 = .ok (.aload_n 0, 1) := by decide +kernel
theorem dX3_next_1 : decode cX3_next 1 = .ok (.getfield 19, 3) := by decide +kernel
theorem dX3_next_4 : decode cX3_next 4 = .ok (.iload_n 1, 1) := by decide +kernel
theorem dX3_next_5 : decode cX3_next 5 = .ok (.invokevirtual 119, 3) := by decide +kernel
theorem dX3_next_8 : decode cX3_next 8 = .ok (.ifCond .ne 13, 3) := by decide +kernel
theorem dX3_next_11 : decode cX3_next 11 = .ok (.new 30, 3) := by decide +kernel
theorem dX3_next_14 : decode cX3_next 14 = .ok (.dup, 1) := by decide +kernel
theorem dX3_next_15 : decode cX3_next 15 = .ok (.ldc 139, 2) := by decide +kernel
theorem dX3_next_17 : decode cX3_next 17 = .ok (.invokespecial 34, 3) := by decide +kernel
theorem dX3_next_20 : decode cX3_next 20 = .ok (.athrow, 1) := by decide +kernel
theorem dX3_next_21 : decode cX3_next 21 = .ok (.aload_n 0, 1) := by decide +kernel
theorem dX3_next_22 : decode cX3_next 22 = .ok (.iload_n 1, 1) := by decide +kernel
theorem dX3_next_23 : decode cX3_next 23 = .ok (.invokevirtual 162, 3) := by decide +kernel
theorem dX3_next_26 : decode cX3_next 26 = .ok (.ireturn, 1) := by decide +kernel
set_option maxRecDepth 20000 in
theorem ggX3_count_X3_isWithin : GoodIn wsX3_count wsX3_isWithin := goodIn_r _ [6] (by decide +kernel) (by decide +kernel)
set_option maxRecDepth 20000 in
theorem gX3_count_X3_isWithin : GoodIn wsX3_count (va_wsS RX3 37 yX3_isWithin wsX3_isWithin) := goodIn_app (goodIn_of _ (by decide +kernel)) ggX3_count_X3_isWithin
set_option maxRecDepth 20000 in
theorem ggX3_count_X3_counted : GoodIn wsX3_count wsX3_counted := goodIn_r _ [10, 11, 12, 13, 14, 15, 16, 17, 18, 19, 20, 21, 22, 23, 24, 25, 26, 27, 28, 29, 30, 31, 32, 33, 34, 35, 36, 37, 38, 39, 40, 41, 42, 43, 44, 45, 46, 47, 48, 49, 50, 51, 52, 53, 54, 55, 56, 57] (by decide +kernel) (by decide +kernel)
set_option maxRecDepth 20000 in
theorem gX3_count_X3_counted : GoodIn wsX3_count (wsV RX3 167 RX3 yX3_counted wsX3_counted) := goodIn_app (goodIn_of _ (by decide +kernel)) ggX3_count_X3_counted
theorem dX3_count_0 : decode cX3_count 0 = .ok (.iload_n 1, 1) := by decide +kernel
theorem dX3_count_1 : decode cX3_count 1 = .ok (.iconst 0, 1) := by decide +kernel
theorem dX3_count_2 : decode cX3_count 2 = .ok (.bipush 9, 2) := by decide +kernel
theorem dX3_count_4 : decode cX3_count 4 = .ok (.invokestatic 37, 3) := by decide +kernel
theorem dX3_count_7 : decode cX3_count 7 = .ok (.ifCond .ne 13, 3) := by decide +kernel
theorem dX3_count_10 : decode cX3_count 10 = .ok (.new 30, 3) := by decide +kernel
theorem dX3_count_13 : decode cX3_count 13 = .ok (.dup, 1) := by decide +kernel
theorem dX3_count_14 : decode cX3_count 14 = .ok (.ldc 165, 2) := by decide +kernel
theorem dX3_count_16 : decode cX3_count 16 = .ok (.invokespecial 34, 3) := by decide +kernel
theorem dX3_count_19 : decode cX3_count 19 = .ok (.athrow, 1) := by decide +kernel
theorem dX3_count_20 : decode cX3_count 20 = .ok (.aload_n 0, 1) := by decide +kernel
theorem dX3_count_21 : decode cX3_count 21 = .ok (.iload_n 1, 1) := by decide +kernel
theorem dX3_count_22 : decode cX3_count 22 = .ok (.invokevirtual 167, 3) := by decide +kernel
theorem dX3_count_25 : decode cX3_count 25 = .ok (.ireturn, 1) := by decide +kernel
set_option maxRecDepth 20000 in
theorem ggX3_pass_X3_isWithin : GoodIn wsX3_pass wsX3_isWithin := goodIn_r _ [8] (by decide +kernel) (by decide +kernel)
set_option maxRecDepth 20000 in
theorem gX3_pass_X3_isWithin : GoodIn wsX3_pass (va_wsS RX3 37 yX3_isWithin wsX3_isWithin) := goodIn_app (goodIn_of _ (by decide +kernel)) ggX3_pass_X3_isWithin
set_option maxRecDepth 20000 in
theorem ggX3_pass_X1_tally : GoodIn wsX3_pass wsX1_tally := goodIn_r _ [13, 14, 15, 16, 17, 12, 18, 19, 20, 21, 22, 23, 24, 25, 26, 27, 110, 111, 112, 113, 114, 115, 116, 117, 118, 119, 120, 121, 122, 123] (by decide +kernel) (by decide +kernel)
set_option maxRecDepth 20000 in
theorem gX3_pass_X1_tally : GoodIn wsX3_pass (wsV RX3 172 RX1 yX1_tally wsX1_tally) := goodIn_app (goodIn_of _ (by decide +kernel)) ggX3_pass_X1_tally
set_option maxRecDepth 20000 in
theorem ggX3_pass_X1_passMinutes : GoodIn wsX3_pass wsX1_passMinutes := goodIn_r _ [31, 32, 33, 34, 35, 36, 12, 37, 14, 38, 39, 40, 41, 42, 43, 19, 44, 45, 46, 47, 6, 7, 8, 22, 23, 24, 25, 26, 27, 48, 49, 50, 51, 52, 53, 54, 55, 56, 20, 57, 58, 59, 60, 61, 62, 63, 64, 65, 66, 67, 68, 69, 70, 71, 72, 73, 74, 75, 76, 77, 78, 79, 80, 81, 82, 83, 84, 85, 86, 87, 88, 89, 90, 91, 92, 93, 94, 95, 96, 97, 98, 99, 100, 101, 102, 103, 104, 105, 106, 110, 111, 112, 113, 114, 115, 116, 117, 118, 119, 120, 121, 122, 123, 124, 125, 126, 127, 128] (by decide +kernel) (by decide +kernel)
set_option maxRecDepth 20000 in
theorem gX3_pass_X1_passMinutes : GoodIn wsX3_pass (wsV RX3 175 RX1 yX1_passMinutes wsX1_passMinutes) := goodIn_app (goodIn_of _ (by decide +kernel)) ggX3_pass_X1_passMinutes
theorem dX3_pass_0 : decode cX3_pass 0 = .ok (.iload_n 1, 1) := by decide +kernel
theorem dX3_pass_1 : decode cX3_pass 1 = .ok (.iconst 1, 1) := by decide +kernel
theorem dX3_pass_2 : decode cX3_pass 2 = .ok (.bipush 90, 2) := by decide +kernel
theorem dX3_pass_4 : decode cX3_pass 4 = .ok (.invokestatic 37, 3) := by decide +kernel
theorem dX3_pass_7 : decode cX3_pass 7 = .ok (.ifCond .ne 13, 3) := by decide +kernel
theorem dX3_pass_10 : decode cX3_pass 10 = .ok (.new 41, 3) := by decide +kernel
theorem dX3_pass_13 : decode cX3_pass 13 = .ok (.dup, 1) := by decide +kernel
theorem dX3_pass_14 : decode cX3_pass 14 = .ok (.ldc 170, 2) := by decide +kernel
theorem dX3_pass_16 : decode cX3_pass 16 = .ok (.invokespecial 45, 3) := by decide +kernel
theorem dX3_pass_19 : decode cX3_pass 19 = .ok (.athrow, 1) := by decide +kernel
theorem dX3_pass_20 : decode cX3_pass 20 = .ok (.aload_n 0, 1) := by decide +kernel
theorem dX3_pass_21 : decode cX3_pass 21 = .ok (.getfield 19, 3) := by decide +kernel
theorem dX3_pass_24 : decode cX3_pass 24 = .ok (.iconst 3, 1) := by decide +kernel
theorem dX3_pass_25 : decode cX3_pass 25 = .ok (.invokevirtual 172, 3) := by decide +kernel
theorem dX3_pass_28 : decode cX3_pass 28 = .ok (.istore_n 2, 1) := by decide +kernel
theorem dX3_pass_29 : decode cX3_pass 29 = .ok (.aload_n 0, 1) := by decide +kernel
theorem dX3_pass_30 : decode cX3_pass 30 = .ok (.getfield 19, 3) := by decide +kernel
theorem dX3_pass_33 : decode cX3_pass 33 = .ok (.iload_n 1, 1) := by decide +kernel
theorem dX3_pass_34 : decode cX3_pass 34 = .ok (.aload_n 0, 1) := by decide +kernel
theorem dX3_pass_35 : decode cX3_pass 35 = .ok (.getfield 10, 3) := by decide +kernel
theorem dX3_pass_38 : decode cX3_pass 38 = .ok (.invokevirtual 175, 3) := by decide +kernel
theorem dX3_pass_41 : decode cX3_pass 41 = .ok (.aload_n 0, 1) := by decide +kernel
theorem dX3_pass_42 : decode cX3_pass 42 = .ok (.getfield 19, 3) := by decide +kernel
theorem dX3_pass_45 : decode cX3_pass 45 = .ok (.iconst 3, 1) := by decide +kernel
theorem dX3_pass_46 : decode cX3_pass 46 = .ok (.invokevirtual 172, 3) := by decide +kernel
theorem dX3_pass_49 : decode cX3_pass 49 = .ok (.iload_n 2, 1) := by decide +kernel
theorem dX3_pass_50 : decode cX3_pass 50 = .ok (.isub, 1) := by decide +kernel
theorem dX3_pass_51 : decode cX3_pass 51 = .ok (.ireturn, 1) := by decide +kernel
set_option maxRecDepth 20000 in
theorem ggX3_burns_X1_has : GoodIn wsX3_burns wsX1_has := goodIn_r _ [10, 11, 12, 13, 14, 113, 114, 115, 116, 117, 118, 119, 120, 121, 122, 123, 124, 125] (by decide +kernel) (by decide +kernel)
set_option maxRecDepth 20000 in
theorem gX3_burns_X1_has : GoodIn wsX3_burns (wsV RX3 119 RX1 yX1_has wsX1_has) := goodIn_app (goodIn_of _ (by decide +kernel)) ggX3_burns_X1_has
set_option maxRecDepth 20000 in
theorem ggX3_burns_X1_copy : GoodIn wsX3_burns wsX1_copy := goodIn_r _ [18, 19, 20, 21, 22, 23, 24, 25, 26, 27, 28, 11, 29, 30, 31, 32, 33, 34, 35, 36, 37, 38, 39, 113, 114, 115, 116, 117, 118, 119, 120, 121, 122, 123, 124, 125, 126] (by decide +kernel) (by decide +kernel)
set_option maxRecDepth 20000 in
theorem gX3_burns_X1_copy : GoodIn wsX3_burns (wsV RX3 179 RX1 yX1_copy wsX1_copy) := goodIn_app (goodIn_of _ (by decide +kernel)) ggX3_burns_X1_copy
set_option maxRecDepth 20000 in
theorem ggX3_burns_X1_isBurning : GoodIn wsX3_burns wsX1_isBurning := goodIn_r _ [43, 25, 44, 7, 8, 9, 10, 11, 12, 13, 14, 45, 37, 38, 33, 39, 35, 113, 114, 115, 116, 117, 118, 119, 120, 121, 122, 123, 124, 125, 126] (by decide +kernel) (by decide +kernel)
set_option maxRecDepth 20000 in
theorem gX3_burns_X1_isBurning : GoodIn wsX3_burns (wsV RX3 152 RX1 yX1_isBurning wsX1_isBurning) := goodIn_app (goodIn_of _ (by decide +kernel)) ggX3_burns_X1_isBurning
set_option maxRecDepth 20000 in
theorem ggX3_burns_X1_passMinutes : GoodIn wsX3_burns wsX1_passMinutes := goodIn_r _ [49, 50, 29, 51, 52, 53, 9, 54, 11, 22, 21, 55, 56, 57, 58, 26, 44, 7, 8, 10, 12, 13, 14, 45, 37, 38, 33, 39, 35, 59, 60, 61, 62, 63, 64, 65, 66, 67, 25, 68, 69, 70, 71, 72, 19, 28, 73, 74, 75, 76, 77, 78, 79, 80, 81, 82, 83, 84, 85, 86, 87, 27, 88, 89, 90, 91, 24, 92, 93, 94, 95, 96, 97, 98, 99, 100, 101, 102, 103, 104, 105, 106, 107, 108, 23, 109, 41, 42, 43, 113, 114, 115, 116, 117, 118, 119, 120, 121, 122, 123, 124, 125, 126, 127, 128, 129, 130, 131] (by decide +kernel) (by decide +kernel)
set_option maxRecDepth 20000 in
theorem gX3_burns_X1_passMinutes : GoodIn wsX3_burns (wsV RX3 175 RX1 yX1_passMinutes wsX1_passMinutes) := goodIn_app (goodIn_of _ (by decide +kernel)) ggX3_burns_X1_passMinutes
theorem dX3_burns_0 : decode cX3_burns 0 = .ok (.aload_n 0, 1) := by decide +kernel
theorem dX3_burns_1 : decode cX3_burns 1 = .ok (.getfield 19, 3) := by decide +kernel
theorem dX3_burns_4 : decode cX3_burns 4 = .ok (.iload_n 1, 1) := by decide +kernel
theorem dX3_burns_5 : decode cX3_burns 5 = .ok (.invokevirtual 119, 3) := by decide +kernel
theorem dX3_burns_8 : decode cX3_burns 8 = .ok (.ifCond .ne 13, 3) := by decide +kernel
theorem dX3_burns_11 : decode cX3_burns 11 = .ok (.new 30, 3) := by decide +kernel
theorem dX3_burns_14 : decode cX3_burns 14 = .ok (.dup, 1) := by decide +kernel
theorem dX3_burns_15 : decode cX3_burns 15 = .ok (.ldc 139, 2) := by decide +kernel
theorem dX3_burns_17 : decode cX3_burns 17 = .ok (.invokespecial 34, 3) := by decide +kernel
theorem dX3_burns_20 : decode cX3_burns 20 = .ok (.athrow, 1) := by decide +kernel
theorem dX3_burns_21 : decode cX3_burns 21 = .ok (.aload_n 0, 1) := by decide +kernel
theorem dX3_burns_22 : decode cX3_burns 22 = .ok (.getfield 23, 3) := by decide +kernel
theorem dX3_burns_25 : decode cX3_burns 25 = .ok (.aload_n 0, 1) := by decide +kernel
theorem dX3_burns_26 : decode cX3_burns 26 = .ok (.getfield 19, 3) := by decide +kernel
theorem dX3_burns_29 : decode cX3_burns 29 = .ok (.invokevirtual 179, 3) := by decide +kernel
theorem dX3_burns_32 : decode cX3_burns 32 = .ok (.iconst 0, 1) := by decide +kernel
theorem dX3_burns_33 : decode cX3_burns 33 = .ok (.istore_n 2, 1) := by decide +kernel
theorem dX3_burns_34 : decode cX3_burns 34 = .ok (.iload_n 2, 1) := by decide +kernel
theorem dX3_burns_35 : decode cX3_burns 35 = .ok (.bipush 60, 2) := by decide +kernel
theorem dX3_burns_37 : decode cX3_burns 37 = .ok (.if_icmp .gt 34, 3) := by decide +kernel
theorem dX3_burns_40 : decode cX3_burns 40 = .ok (.aload_n 0, 1) := by decide +kernel
theorem dX3_burns_41 : decode cX3_burns 41 = .ok (.getfield 23, 3) := by decide +kernel
theorem dX3_burns_44 : decode cX3_burns 44 = .ok (.iload_n 1, 1) := by decide +kernel
theorem dX3_burns_45 : decode cX3_burns 45 = .ok (.invokevirtual 152, 3) := by decide +kernel
theorem dX3_burns_48 : decode cX3_burns 48 = .ok (.ifCond .ne 5, 3) := by decide +kernel
theorem dX3_burns_51 : decode cX3_burns 51 = .ok (.iload_n 2, 1) := by decide +kernel
theorem dX3_burns_52 : decode cX3_burns 52 = .ok (.ireturn, 1) := by decide +kernel
theorem dX3_burns_53 : decode cX3_burns 53 = .ok (.aload_n 0, 1) := by decide +kernel
theorem dX3_burns_54 : decode cX3_burns 54 = .ok (.getfield 23, 3) := by decide +kernel
theorem dX3_burns_57 : decode cX3_burns 57 = .ok (.iconst 1, 1) := by decide +kernel
theorem dX3_burns_58 : decode cX3_burns 58 = .ok (.aload_n 0, 1) := by decide +kernel
theorem dX3_burns_59 : decode cX3_burns 59 = .ok (.getfield 10, 3) := by decide +kernel
theorem dX3_burns_62 : decode cX3_burns 62 = .ok (.invokevirtual 175, 3) := by decide +kernel
theorem dX3_burns_65 : decode cX3_burns 65 = .ok (.iinc 2 1, 3) := by decide +kernel
theorem dX3_burns_68 : decode cX3_burns 68 = .ok (.goto (-34), 3) := by decide +kernel
theorem dX3_burns_71 : decode cX3_burns 71 = .ok (.iconst (-1), 1) := by decide +kernel
theorem dX3_burns_72 : decode cX3_burns 72 = .ok (.ireturn, 1) := by decide +kernel
set_option maxRecDepth 20000 in
theorem ggX3_foresee_X3_isWithin : GoodIn wsX3_foresee wsX3_isWithin := goodIn_r _ [11] (by decide +kernel) (by decide +kernel)
set_option maxRecDepth 20000 in
theorem gX3_foresee_X3_isWithin : GoodIn wsX3_foresee (va_wsS RX3 37 yX3_isWithin wsX3_isWithin) := goodIn_app (goodIn_of _ (by decide +kernel)) ggX3_foresee_X3_isWithin
set_option maxRecDepth 20000 in
theorem ggX3_foresee_X1_copy : GoodIn wsX3_foresee wsX1_copy := goodIn_r _ [16, 17, 18, 19, 20, 21, 22, 23, 24, 25, 26, 27, 28, 29, 30, 31, 32, 33, 34, 35, 36, 37, 38, 122, 123, 124, 125, 126, 127, 128, 129, 130, 131, 132, 133, 134, 135] (by decide +kernel) (by decide +kernel)
set_option maxRecDepth 20000 in
theorem gX3_foresee_X1_copy : GoodIn wsX3_foresee (wsV RX3 179 RX1 yX1_copy wsX1_copy) := goodIn_app (goodIn_of _ (by decide +kernel)) ggX3_foresee_X1_copy
set_option maxRecDepth 20000 in
theorem ggX3_foresee_X1_passMinutes : GoodIn wsX3_foresee wsX1_passMinutes := goodIn_r _ [42, 43, 28, 44, 45, 46, 15, 47, 27, 20, 19, 48, 49, 50, 51, 24, 52, 53, 54, 55, 9, 10, 11, 56, 36, 37, 32, 38, 34, 57, 58, 59, 60, 61, 62, 63, 64, 65, 23, 66, 67, 68, 69, 70, 17, 26, 71, 72, 73, 74, 75, 76, 77, 78, 79, 80, 81, 82, 83, 84, 85, 25, 86, 87, 88, 89, 22, 90, 91, 92, 93, 94, 95, 96, 97, 98, 99, 100, 101, 102, 103, 104, 105, 106, 21, 107, 108, 109, 110, 122, 123, 124, 125, 126, 127, 128, 129, 130, 131, 132, 133, 134, 135, 136, 137, 138, 139, 140] (by decide +kernel) (by decide +kernel)
set_option maxRecDepth 20000 in
theorem gX3_foresee_X1_passMinutes : GoodIn wsX3_foresee (wsV RX3 175 RX1 yX1_passMinutes wsX1_passMinutes) := goodIn_app (goodIn_of _ (by decide +kernel)) ggX3_foresee_X1_passMinutes
set_option maxRecDepth 20000 in
theorem ggX3_foresee_X1_tally : GoodIn wsX3_foresee wsX1_tally := goodIn_r _ [114, 27, 115, 116, 117, 15, 118, 24, 23, 18, 56, 36, 37, 32, 38, 34, 122, 123, 124, 125, 126, 127, 128, 129, 130, 131, 132, 133, 134, 135] (by decide +kernel) (by decide +kernel)
set_option maxRecDepth 20000 in
theorem gX3_foresee_X1_tally : GoodIn wsX3_foresee (wsV RX3 172 RX1 yX1_tally wsX1_tally) := goodIn_app (goodIn_of _ (by decide +kernel)) ggX3_foresee_X1_tally
theorem dX3_foresee_0 : decode cX3_foresee 0 = .ok (.iload_n 1, 1) := by decide +kernel
theorem dX3_foresee_1 : decode cX3_foresee 1 = .ok (.iconst 1, 1) := by decide +kernel
theorem dX3_foresee_2 : decode cX3_foresee 2 = .ok (.bipush 90, 2) := by decide +kernel
theorem dX3_foresee_4 : decode cX3_foresee 4 = .ok (.invokestatic 37, 3) := by decide +kernel
theorem dX3_foresee_7 : decode cX3_foresee 7 = .ok (.ifCond .ne 13, 3) := by decide +kernel
theorem dX3_foresee_10 : decode cX3_foresee 10 = .ok (.new 41, 3) := by decide +kernel
theorem dX3_foresee_13 : decode cX3_foresee 13 = .ok (.dup, 1) := by decide +kernel
theorem dX3_foresee_14 : decode cX3_foresee 14 = .ok (.ldc 170, 2) := by decide +kernel
theorem dX3_foresee_16 : decode cX3_foresee 16 = .ok (.invokespecial 45, 3) := by decide +kernel
theorem dX3_foresee_19 : decode cX3_foresee 19 = .ok (.athrow, 1) := by decide +kernel
theorem dX3_foresee_20 : decode cX3_foresee 20 = .ok (.iload_n 2, 1) := by decide +kernel
theorem dX3_foresee_21 : decode cX3_foresee 21 = .ok (.iconst 2, 1) := by decide +kernel
theorem dX3_foresee_22 : decode cX3_foresee 22 = .ok (.bipush 6, 2) := by decide +kernel
theorem dX3_foresee_24 : decode cX3_foresee 24 = .ok (.invokestatic 37, 3) := by decide +kernel
theorem dX3_foresee_27 : decode cX3_foresee 27 = .ok (.ifCond .ne 19, 3) := by decide +kernel
theorem dX3_foresee_30 : decode cX3_foresee 30 = .ok (.iload_n 2, 1) := by decide +kernel
theorem dX3_foresee_31 : decode cX3_foresee 31 = .ok (.bipush 9, 2) := by decide +kernel
theorem dX3_foresee_33 : decode cX3_foresee 33 = .ok (.if_icmp .eq 13, 3) := by decide +kernel
theorem dX3_foresee_36 : decode cX3_foresee 36 = .ok (.new 30, 3) := by decide +kernel
theorem dX3_foresee_39 : decode cX3_foresee 39 = .ok (.dup, 1) := by decide +kernel
theorem dX3_foresee_40 : decode cX3_foresee 40 = .ok (.ldc 183, 2) := by decide +kernel
theorem dX3_foresee_42 : decode cX3_foresee 42 = .ok (.invokespecial 34, 3) := by decide +kernel
theorem dX3_foresee_45 : decode cX3_foresee 45 = .ok (.athrow, 1) := by decide +kernel
theorem dX3_foresee_46 : decode cX3_foresee 46 = .ok (.aload_n 0, 1) := by decide +kernel
theorem dX3_foresee_47 : decode cX3_foresee 47 = .ok (.getfield 23, 3) := by decide +kernel
theorem dX3_foresee_50 : decode cX3_foresee 50 = .ok (.aload_n 0, 1) := by decide +kernel
theorem dX3_foresee_51 : decode cX3_foresee 51 = .ok (.getfield 19, 3) := by decide +kernel
theorem dX3_foresee_54 : decode cX3_foresee 54 = .ok (.invokevirtual 179, 3) := by decide +kernel
theorem dX3_foresee_57 : decode cX3_foresee 57 = .ok (.aload_n 0, 1) := by decide +kernel
theorem dX3_foresee_58 : decode cX3_foresee 58 = .ok (.getfield 23, 3) := by decide +kernel
theorem dX3_foresee_61 : decode cX3_foresee 61 = .ok (.iload_n 1, 1) := by decide +kernel
theorem dX3_foresee_62 : decode cX3_foresee 62 = .ok (.aload_n 0, 1) := by decide +kernel
theorem dX3_foresee_63 : decode cX3_foresee 63 = .ok (.getfield 10, 3) := by decide +kernel
theorem dX3_foresee_66 : decode cX3_foresee 66 = .ok (.invokevirtual 175, 3) := by decide +kernel
theorem dX3_foresee_69 : decode cX3_foresee 69 = .ok (.aload_n 0, 1) := by decide +kernel
theorem dX3_foresee_70 : decode cX3_foresee 70 = .ok (.getfield 23, 3) := by decide +kernel
theorem dX3_foresee_73 : decode cX3_foresee 73 = .ok (.iload_n 2, 1) := by decide +kernel
theorem dX3_foresee_74 : decode cX3_foresee 74 = .ok (.invokevirtual 172, 3) := by decide +kernel
theorem dX3_foresee_77 : decode cX3_foresee 77 = .ok (.ireturn, 1) := by decide +kernel
set_option maxRecDepth 20000 in
theorem ggX3_advise_X3_isFrame : GoodIn wsX3_advise wsX3_isFrame := goodIn_r _ [6, 7, 8, 5, 9] (by decide +kernel) (by decide +kernel)
set_option maxRecDepth 20000 in
theorem gX3_advise_X3_isFrame : GoodIn wsX3_advise (va_wsS RX3 103 yX3_isFrame wsX3_isFrame) := goodIn_app (goodIn_of _ (by decide +kernel)) ggX3_advise_X3_isFrame
set_option maxRecDepth 20000 in
theorem ggX3_advise_X3_minutesToNet : GoodIn wsX3_advise wsX3_minutesToNet := goodIn_r _ [13, 14, 15, 16, 17, 18, 19, 20, 21, 22, 23, 24, 25, 26, 27, 28, 29, 30, 31, 32, 33, 34, 35, 36, 37, 38, 39, 40, 41, 42, 43, 44, 45, 46, 47, 48, 49, 50, 51, 52, 53, 5, 54, 55, 56, 57, 58, 59, 60, 61, 62, 63, 64, 65, 66, 67, 68, 69, 70, 8, 9, 71, 72, 73, 74, 75, 76, 77, 78, 79, 80, 81, 82, 83, 84, 85, 86, 87, 88, 89, 90, 91, 92, 93, 94, 95, 96, 97, 98, 99, 100, 101, 102, 103, 104, 105, 106, 107, 108, 109, 110, 111, 112, 113, 114, 115, 116, 117, 118, 119, 120, 121, 122, 123, 124, 125, 126, 127, 128, 129, 130, 131, 132, 133, 134, 135, 136, 137, 138, 139, 140, 141, 142, 143, 144, 145, 146] (by decide +kernel) (by decide +kernel)
set_option maxRecDepth 20000 in
theorem gX3_advise_X3_minutesToNet : GoodIn wsX3_advise (wsV RX3 187 RX3 yX3_minutesToNet wsX3_minutesToNet) := goodIn_app (goodIn_of _ (by decide +kernel)) ggX3_advise_X3_minutesToNet
theorem dX3_advise_0 : decode cX3_advise 0 = .ok (.iload_n 1, 1) := by decide +kernel
theorem dX3_advise_1 : decode cX3_advise 1 = .ok (.invokestatic 103, 3) := by decide +kernel
theorem dX3_advise_4 : decode cX3_advise 4 = .ok (.ifCond .ne 13, 3) := by decide +kernel
theorem dX3_advise_7 : decode cX3_advise 7 = .ok (.new 30, 3) := by decide +kernel
theorem dX3_advise_10 : decode cX3_advise 10 = .ok (.dup, 1) := by decide +kernel
theorem dX3_advise_11 : decode cX3_advise 11 = .ok (.ldc 185, 2) := by decide +kernel
theorem dX3_advise_13 : decode cX3_advise 13 = .ok (.invokespecial 34, 3) := by decide +kernel
theorem dX3_advise_16 : decode cX3_advise 16 = .ok (.athrow, 1) := by decide +kernel
theorem dX3_advise_17 : decode cX3_advise 17 = .ok (.iconst (-1), 1) := by decide +kernel
theorem dX3_advise_18 : decode cX3_advise 18 = .ok (.istore_n 2, 1) := by decide +kernel
theorem dX3_advise_19 : decode cX3_advise 19 = .ok (.bipush 61, 2) := by decide +kernel
theorem dX3_advise_21 : decode cX3_advise 21 = .ok (.istore_n 3, 1) := by decide +kernel
theorem dX3_advise_22 : decode cX3_advise 22 = .ok (.iconst 0, 1) := by decide +kernel
theorem dX3_advise_23 : decode cX3_advise 23 = .ok (.istore 4, 2) := by decide +kernel
theorem dX3_advise_25 : decode cX3_advise 25 = .ok (.iload 4, 2) := by decide +kernel
theorem dX3_advise_27 : decode cX3_advise 27 = .ok (.iconst 3, 1) := by decide +kernel
theorem dX3_advise_28 : decode cX3_advise 28 = .ok (.if_icmp .ge 30, 3) := by decide +kernel
theorem dX3_advise_31 : decode cX3_advise 31 = .ok (.aload_n 0, 1) := by decide +kernel
theorem dX3_advise_32 : decode cX3_advise 32 = .ok (.iload_n 1, 1) := by decide +kernel
theorem dX3_advise_33 : decode cX3_advise 33 = .ok (.iload 4, 2) := by decide +kernel
theorem dX3_advise_35 : decode cX3_advise 35 = .ok (.invokevirtual 187, 3) := by decide +kernel
theorem dX3_advise_38 : decode cX3_advise 38 = .ok (.istore 5, 2) := by decide +kernel
theorem dX3_advise_40 : decode cX3_advise 40 = .ok (.iload 5, 2) := by decide +kernel
theorem dX3_advise_42 : decode cX3_advise 42 = .ok (.iload_n 3, 1) := by decide +kernel
theorem dX3_advise_43 : decode cX3_advise 43 = .ok (.if_icmp .ge 9, 3) := by decide +kernel
theorem dX3_advise_46 : decode cX3_advise 46 = .ok (.iload 5, 2) := by decide +kernel
theorem dX3_advise_48 : decode cX3_advise 48 = .ok (.istore_n 3, 1) := by decide +kernel
theorem dX3_advise_49 : decode cX3_advise 49 = .ok (.iload 4, 2) := by decide +kernel
theorem dX3_advise_51 : decode cX3_advise 51 = .ok (.istore_n 2, 1) := by decide +kernel
theorem dX3_advise_52 : decode cX3_advise 52 = .ok (.iinc 4 1, 3) := by decide +kernel
theorem dX3_advise_55 : decode cX3_advise 55 = .ok (.goto (-30), 3) := by decide +kernel
theorem dX3_advise_58 : decode cX3_advise 58 = .ok (.iload_n 2, 1) := by decide +kernel
theorem dX3_advise_59 : decode cX3_advise 59 = .ok (.ireturn, 1) := by decide +kernel
set_option maxRecDepth 20000 in
theorem ggX3_mean_X1_isAfloat : GoodIn wsX3_mean wsX1_isAfloat := goodIn_r _ [8, 9, 10, 11, 12, 7, 13, 14, 15, 16, 17, 18, 19, 20, 21, 22, 23, 28, 29, 30, 31, 32, 33, 34, 35, 36, 37, 38, 39, 40, 41] (by decide +kernel) (by decide +kernel)
set_option maxRecDepth 20000 in
theorem gX3_mean_X1_isAfloat : GoodIn wsX3_mean (wsV RX3 124 RX1 yX1_isAfloat wsX1_isAfloat) := goodIn_app (goodIn_of _ (by decide +kernel)) ggX3_mean_X1_isAfloat
set_option maxRecDepth 20000 in
theorem ggX3_mean_X2_get : GoodIn wsX3_mean wsX2_get := goodIn_r _ [22, 23, 41] (by decide +kernel) (by decide +kernel)
set_option maxRecDepth 20000 in
theorem gX3_mean_X2_get : GoodIn wsX3_mean (wsV RX3 50 RX2 yX2_get wsX2_get) := goodIn_app (goodIn_of _ (by decide +kernel)) ggX3_mean_X2_get
theorem dX3_mean_0 : decode cX3_mean 0 = .ok (.iconst 0, 1) := by decide +kernel
theorem dX3_mean_1 : decode cX3_mean 1 = .ok (.istore_n 1, 1) := by decide +kernel
theorem dX3_mean_2 : decode cX3_mean 2 = .ok (.iconst 0, 1) := by decide +kernel
theorem dX3_mean_3 : decode cX3_mean 3 = .ok (.istore_n 2, 1) := by decide +kernel
theorem dX3_mean_4 : decode cX3_mean 4 = .ok (.iconst 0, 1) := by decide +kernel
theorem dX3_mean_5 : decode cX3_mean 5 = .ok (.istore_n 3, 1) := by decide +kernel
theorem dX3_mean_6 : decode cX3_mean 6 = .ok (.iload_n 3, 1) := by decide +kernel
theorem dX3_mean_7 : decode cX3_mean 7 = .ok (.aload_n 0, 1) := by decide +kernel
theorem dX3_mean_8 : decode cX3_mean 8 = .ok (.getfield 19, 3) := by decide +kernel
theorem dX3_mean_11 : decode cX3_mean 11 = .ok (.getfield 110, 3) := by decide +kernel
theorem dX3_mean_14 : decode cX3_mean 14 = .ok (.if_icmp .ge 37, 3) := by decide +kernel
theorem dX3_mean_17 : decode cX3_mean 17 = .ok (.aload_n 0, 1) := by decide +kernel
theorem dX3_mean_18 : decode cX3_mean 18 = .ok (.getfield 19, 3) := by decide +kernel
theorem dX3_mean_21 : decode cX3_mean 21 = .ok (.iload_n 3, 1) := by decide +kernel
theorem dX3_mean_22 : decode cX3_mean 22 = .ok (.invokevirtual 124, 3) := by decide +kernel
theorem dX3_mean_25 : decode cX3_mean 25 = .ok (.ifCond .eq 20, 3) := by decide +kernel
theorem dX3_mean_28 : decode cX3_mean 28 = .ok (.iinc 1 1, 3) := by decide +kernel
theorem dX3_mean_31 : decode cX3_mean 31 = .ok (.iload_n 2, 1) := by decide +kernel
theorem dX3_mean_32 : decode cX3_mean 32 = .ok (.aload_n 0, 1) := by decide +kernel
theorem dX3_mean_33 : decode cX3_mean 33 = .ok (.getfield 19, 3) := by decide +kernel
theorem dX3_mean_36 : decode cX3_mean 36 = .ok (.getfield 132, 3) := by decide +kernel
theorem dX3_mean_39 : decode cX3_mean 39 = .ok (.iload_n 3, 1) := by decide +kernel
theorem dX3_mean_40 : decode cX3_mean 40 = .ok (.invokevirtual 50, 3) := by decide +kernel
theorem dX3_mean_43 : decode cX3_mean 43 = .ok (.iadd, 1) := by decide +kernel
theorem dX3_mean_44 : decode cX3_mean 44 = .ok (.istore_n 2, 1) := by decide +kernel
theorem dX3_mean_45 : decode cX3_mean 45 = .ok (.iinc 3 1, 3) := by decide +kernel
theorem dX3_mean_48 : decode cX3_mean 48 = .ok (.goto (-42), 3) := by decide +kernel
theorem dX3_mean_51 : decode cX3_mean 51 = .ok (.iload_n 1, 1) := by decide +kernel
theorem dX3_mean_52 : decode cX3_mean 52 = .ok (.ifCond .le 11, 3) := by decide +kernel
theorem dX3_mean_55 : decode cX3_mean 55 = .ok (.iload_n 2, 1) := by decide +kernel
theorem dX3_mean_56 : decode cX3_mean 56 = .ok (.i2d, 1) := by decide +kernel
theorem dX3_mean_57 : decode cX3_mean 57 = .ok (.iload_n 1, 1) := by decide +kernel
theorem dX3_mean_58 : decode cX3_mean 58 = .ok (.i2d, 1) := by decide +kernel
theorem dX3_mean_59 : decode cX3_mean 59 = .ok (.ddiv, 1) := by decide +kernel
theorem dX3_mean_60 : decode cX3_mean 60 = .ok (.goto 4, 3) := by decide +kernel
theorem dX3_mean_63 : decode cX3_mean 63 = .ok (.dconst 0, 1) := by decide +kernel
theorem dX3_mean_64 : decode cX3_mean 64 = .ok (.dreturn, 1) := by decide +kernel
set_option maxRecDepth 20000 in
theorem ggX3_digest_X3_counted : GoodIn wsX3_digest wsX3_counted := goodIn_r _ [11, 5, 12, 6, 3, 13, 14, 15, 16, 17, 18, 19, 20, 21, 22, 23, 24, 25, 26, 27, 28, 29, 30, 31, 32, 33, 84, 85, 86, 92, 93, 94, 95, 96, 97, 98, 99, 100, 101, 102, 103, 104, 87, 88, 89, 90, 91, 105] (by decide +kernel) (by decide +kernel)
set_option maxRecDepth 20000 in
theorem gX3_digest_X3_counted : GoodIn wsX3_digest (wsV RX3 167 RX3 yX3_counted wsX3_counted) := goodIn_app (goodIn_of _ (by decide +kernel)) ggX3_digest_X3_counted
set_option maxRecDepth 20000 in
theorem ggX3_digest_X2_get : GoodIn wsX3_digest wsX2_get := goodIn_r _ [32, 33, 105] (by decide +kernel) (by decide +kernel)
set_option maxRecDepth 20000 in
theorem gX3_digest_X2_get : GoodIn wsX3_digest (wsV RX3 50 RX2 yX2_get wsX2_get) := goodIn_app (goodIn_of _ (by decide +kernel)) ggX3_digest_X2_get
set_option maxRecDepth 20000 in
theorem ggX3_digest_X3_riverFact : GoodIn wsX3_digest wsX3_riverFact := goodIn_r _ [38, 5, 3, 39, 40, 41, 42, 18, 43, 44, 45, 46, 47, 28, 29, 30, 31, 32, 33, 34, 48, 49, 50, 51, 52, 53, 54, 55, 56, 57, 58, 20, 25, 59, 60, 84, 85, 86, 87, 88, 89, 90, 91, 92, 93, 94, 95, 96, 97, 98, 99, 100, 101, 102, 103, 104, 105] (by decide +kernel) (by decide +kernel)
set_option maxRecDepth 20000 in
theorem gX3_digest_X3_riverFact : GoodIn wsX3_digest (wsV RX3 99 RX3 yX3_riverFact wsX3_riverFact) := goodIn_app (goodIn_of _ (by decide +kernel)) ggX3_digest_X3_riverFact
set_option maxRecDepth 20000 in
theorem ggX3_digest_X1_fact : GoodIn wsX3_digest wsX1_fact := goodIn_r _ [64, 65, 27, 59, 60, 66, 67, 26, 25, 68, 28, 29, 30, 31, 32, 33, 92, 93, 94, 95, 96, 97, 98, 99, 100, 101, 102, 103, 104, 105] (by decide +kernel) (by decide +kernel)
set_option maxRecDepth 20000 in
theorem gX3_digest_X1_fact : GoodIn wsX3_digest (wsV RX3 159 RX1 yX1_fact wsX1_fact) := goodIn_app (goodIn_of _ (by decide +kernel)) ggX3_digest_X1_fact
set_option maxRecDepth 20000 in
theorem ggX3_digest_X3_nextWeir : GoodIn wsX3_digest wsX3_nextWeir := goodIn_r _ [72, 5, 73, 3, 39, 74, 75, 76, 18, 77, 25, 78, 79, 80, 81, 20, 82, 10, 83, 28, 29, 30, 31, 32, 33, 34, 84, 85, 86, 92, 93, 94, 95, 96, 97, 98, 99, 100, 101, 102, 103, 104, 87, 88, 89, 90, 91, 105] (by decide +kernel) (by decide +kernel)
set_option maxRecDepth 20000 in
theorem gX3_digest_X3_nextWeir : GoodIn wsX3_digest (wsV RX3 162 RX3 yX3_nextWeir wsX3_nextWeir) := goodIn_app (goodIn_of _ (by decide +kernel)) ggX3_digest_X3_nextWeir
theorem dX3_digest_0 : decode cX3_digest 0 = .ok (.ldc2_w 190, 3) := by decide +kernel
theorem dX3_digest_3 : decode cX3_digest 3 = .ok (.lstore_n 1, 1) := by decide +kernel
theorem dX3_digest_4 : decode cX3_digest 4 = .ok (.iconst 0, 1) := by decide +kernel
theorem dX3_digest_5 : decode cX3_digest 5 = .ok (.istore_n 3, 1) := by decide +kernel
theorem dX3_digest_6 : decode cX3_digest 6 = .ok (.iload_n 3, 1) := by decide +kernel
theorem dX3_digest_7 : decode cX3_digest 7 = .ok (.bipush 10, 2) := by decide +kernel
theorem dX3_digest_9 : decode cX3_digest 9 = .ok (.if_icmp .ge 22, 3) := by decide +kernel
theorem dX3_digest_12 : decode cX3_digest 12 = .ok (.lload_n 1, 1) := by decide +kernel
theorem dX3_digest_13 : decode cX3_digest 13 = .ok (.ldc2_w 192, 3) := by decide +kernel
theorem dX3_digest_16 : decode cX3_digest 16 = .ok (.lmul, 1) := by decide +kernel
theorem dX3_digest_17 : decode cX3_digest 17 = .ok (.aload_n 0, 1) := by decide +kernel
theorem dX3_digest_18 : decode cX3_digest 18 = .ok (.iload_n 3, 1) := by decide +kernel
theorem dX3_digest_19 : decode cX3_digest 19 = .ok (.invokevirtual 167, 3) := by decide +kernel
theorem dX3_digest_22 : decode cX3_digest 22 = .ok (.i2l, 1) := by decide +kernel
theorem dX3_digest_23 : decode cX3_digest 23 = .ok (.ladd, 1) := by decide +kernel
theorem dX3_digest_24 : decode cX3_digest 24 = .ok (.lstore_n 1, 1) := by decide +kernel
theorem dX3_digest_25 : decode cX3_digest 25 = .ok (.iinc 3 1, 3) := by decide +kernel
theorem dX3_digest_28 : decode cX3_digest 28 = .ok (.goto (-22), 3) := by decide +kernel
theorem dX3_digest_31 : decode cX3_digest 31 = .ok (.iconst 0, 1) := by decide +kernel
theorem dX3_digest_32 : decode cX3_digest 32 = .ok (.istore_n 3, 1) := by decide +kernel
theorem dX3_digest_33 : decode cX3_digest 33 = .ok (.iload_n 3, 1) := by decide +kernel
theorem dX3_digest_34 : decode cX3_digest 34 = .ok (.iconst 3, 1) := by decide +kernel
theorem dX3_digest_35 : decode cX3_digest 35 = .ok (.if_icmp .ge 28, 3) := by decide +kernel
theorem dX3_digest_38 : decode cX3_digest 38 = .ok (.lload_n 1, 1) := by decide +kernel
theorem dX3_digest_39 : decode cX3_digest 39 = .ok (.ldc2_w 192, 3) := by decide +kernel
theorem dX3_digest_42 : decode cX3_digest 42 = .ok (.lmul, 1) := by decide +kernel
theorem dX3_digest_43 : decode cX3_digest 43 = .ok (.aload_n 0, 1) := by decide +kernel
theorem dX3_digest_44 : decode cX3_digest 44 = .ok (.getfield 10, 3) := by decide +kernel
theorem dX3_digest_47 : decode cX3_digest 47 = .ok (.getfield 46, 3) := by decide +kernel
theorem dX3_digest_50 : decode cX3_digest 50 = .ok (.iload_n 3, 1) := by decide +kernel
theorem dX3_digest_51 : decode cX3_digest 51 = .ok (.invokevirtual 50, 3) := by decide +kernel
theorem dX3_digest_54 : decode cX3_digest 54 = .ok (.i2l, 1) := by decide +kernel
theorem dX3_digest_55 : decode cX3_digest 55 = .ok (.ladd, 1) := by decide +kernel
theorem dX3_digest_56 : decode cX3_digest 56 = .ok (.lstore_n 1, 1) := by decide +kernel
theorem dX3_digest_57 : decode cX3_digest 57 = .ok (.iinc 3 1, 3) := by decide +kernel
theorem dX3_digest_60 : decode cX3_digest 60 = .ok (.goto (-27), 3) := by decide +kernel
theorem dX3_digest_63 : decode cX3_digest 63 = .ok (.iconst 0, 1) := by decide +kernel
theorem dX3_digest_64 : decode cX3_digest 64 = .ok (.istore_n 3, 1) := by decide +kernel
theorem dX3_digest_65 : decode cX3_digest 65 = .ok (.iload_n 3, 1) := by decide +kernel
theorem dX3_digest_66 : decode cX3_digest 66 = .ok (.bipush 60, 2) := by decide +kernel
theorem dX3_digest_68 : decode cX3_digest 68 = .ok (.if_icmp .ge 56, 3) := by decide +kernel
theorem dX3_digest_71 : decode cX3_digest 71 = .ok (.iconst 0, 1) := by decide +kernel
theorem dX3_digest_72 : decode cX3_digest 72 = .ok (.istore 4, 2) := by decide +kernel
theorem dX3_digest_74 : decode cX3_digest 74 = .ok (.iload 4, 2) := by decide +kernel
theorem dX3_digest_76 : decode cX3_digest 76 = .ok (.iconst 3, 1) := by decide +kernel
theorem dX3_digest_77 : decode cX3_digest 77 = .ok (.if_icmp .ge 41, 3) := by decide +kernel
theorem dX3_digest_80 : decode cX3_digest 80 = .ok (.iconst 0, 1) := by decide +kernel
theorem dX3_digest_81 : decode cX3_digest 81 = .ok (.istore 5, 2) := by decide +kernel
theorem dX3_digest_83 : decode cX3_digest 83 = .ok (.iload 5, 2) := by decide +kernel
theorem dX3_digest_85 : decode cX3_digest 85 = .ok (.iconst 4, 1) := by decide +kernel
theorem dX3_digest_86 : decode cX3_digest 86 = .ok (.if_icmp .ge 26, 3) := by decide +kernel
theorem dX3_digest_89 : decode cX3_digest 89 = .ok (.lload_n 1, 1) := by decide +kernel
theorem dX3_digest_90 : decode cX3_digest 90 = .ok (.ldc2_w 192, 3) := by decide +kernel
theorem dX3_digest_93 : decode cX3_digest 93 = .ok (.lmul, 1) := by decide +kernel
theorem dX3_digest_94 : decode cX3_digest 94 = .ok (.aload_n 0, 1) := by decide +kernel
theorem dX3_digest_95 : decode cX3_digest 95 = .ok (.iload 4, 2) := by decide +kernel
theorem dX3_digest_97 : decode cX3_digest 97 = .ok (.iload_n 3, 1) := by decide +kernel
theorem dX3_digest_98 : decode cX3_digest 98 = .ok (.iload 5, 2) := by decide +kernel
theorem dX3_digest_100 : decode cX3_digest 100 = .ok (.invokevirtual 99, 3) := by decide +kernel
theorem dX3_digest_103 : decode cX3_digest 103 = .ok (.i2l, 1) := by decide +kernel
theorem dX3_digest_104 : decode cX3_digest 104 = .ok (.ladd, 1) := by decide +kernel
theorem dX3_digest_105 : decode cX3_digest 105 = .ok (.lstore_n 1, 1) := by decide +kernel
theorem dX3_digest_106 : decode cX3_digest 106 = .ok (.iinc 5 1, 3) := by decide +kernel
theorem dX3_digest_109 : decode cX3_digest 109 = .ok (.goto (-26), 3) := by decide +kernel
theorem dX3_digest_112 : decode cX3_digest 112 = .ok (.iinc 4 1, 3) := by decide +kernel
theorem dX3_digest_115 : decode cX3_digest 115 = .ok (.goto (-41), 3) := by decide +kernel
theorem dX3_digest_118 : decode cX3_digest 118 = .ok (.iinc 3 1, 3) := by decide +kernel
theorem dX3_digest_121 : decode cX3_digest 121 = .ok (.goto (-56), 3) := by decide +kernel
theorem dX3_digest_124 : decode cX3_digest 124 = .ok (.iconst 0, 1) := by decide +kernel
theorem dX3_digest_125 : decode cX3_digest 125 = .ok (.istore_n 3, 1) := by decide +kernel
theorem dX3_digest_126 : decode cX3_digest 126 = .ok (.iload_n 3, 1) := by decide +kernel
theorem dX3_digest_127 : decode cX3_digest 127 = .ok (.aload_n 0, 1) := by decide +kernel
theorem dX3_digest_128 : decode cX3_digest 128 = .ok (.getfield 19, 3) := by decide +kernel
theorem dX3_digest_131 : decode cX3_digest 131 = .ok (.getfield 110, 3) := by decide +kernel
theorem dX3_digest_134 : decode cX3_digest 134 = .ok (.if_icmp .ge 56, 3) := by decide +kernel
theorem dX3_digest_137 : decode cX3_digest 137 = .ok (.iconst 0, 1) := by decide +kernel
theorem dX3_digest_138 : decode cX3_digest 138 = .ok (.istore 4, 2) := by decide +kernel
theorem dX3_digest_140 : decode cX3_digest 140 = .ok (.iload 4, 2) := by decide +kernel
theorem dX3_digest_142 : decode cX3_digest 142 = .ok (.bipush 9, 2) := by decide +kernel
theorem dX3_digest_144 : decode cX3_digest 144 = .ok (.if_icmp .ge 27, 3) := by decide +kernel
theorem dX3_digest_147 : decode cX3_digest 147 = .ok (.lload_n 1, 1) := by decide +kernel
theorem dX3_digest_148 : decode cX3_digest 148 = .ok (.ldc2_w 192, 3) := by decide +kernel
theorem dX3_digest_151 : decode cX3_digest 151 = .ok (.lmul, 1) := by decide +kernel
theorem dX3_digest_152 : decode cX3_digest 152 = .ok (.aload_n 0, 1) := by decide +kernel
theorem dX3_digest_153 : decode cX3_digest 153 = .ok (.getfield 19, 3) := by decide +kernel
theorem dX3_digest_156 : decode cX3_digest 156 = .ok (.iload_n 3, 1) := by decide +kernel
theorem dX3_digest_157 : decode cX3_digest 157 = .ok (.iload 4, 2) := by decide +kernel
theorem dX3_digest_159 : decode cX3_digest 159 = .ok (.invokevirtual 159, 3) := by decide +kernel
theorem dX3_digest_162 : decode cX3_digest 162 = .ok (.i2l, 1) := by decide +kernel
theorem dX3_digest_163 : decode cX3_digest 163 = .ok (.ladd, 1) := by decide +kernel
theorem dX3_digest_164 : decode cX3_digest 164 = .ok (.lstore_n 1, 1) := by decide +kernel
theorem dX3_digest_165 : decode cX3_digest 165 = .ok (.iinc 4 1, 3) := by decide +kernel
theorem dX3_digest_168 : decode cX3_digest 168 = .ok (.goto (-28), 3) := by decide +kernel
theorem dX3_digest_171 : decode cX3_digest 171 = .ok (.lload_n 1, 1) := by decide +kernel
theorem dX3_digest_172 : decode cX3_digest 172 = .ok (.ldc2_w 192, 3) := by decide +kernel
theorem dX3_digest_175 : decode cX3_digest 175 = .ok (.lmul, 1) := by decide +kernel
theorem dX3_digest_176 : decode cX3_digest 176 = .ok (.aload_n 0, 1) := by decide +kernel
theorem dX3_digest_177 : decode cX3_digest 177 = .ok (.iload_n 3, 1) := by decide +kernel
theorem dX3_digest_178 : decode cX3_digest 178 = .ok (.invokevirtual 162, 3) := by decide +kernel
theorem dX3_digest_181 : decode cX3_digest 181 = .ok (.i2l, 1) := by decide +kernel
theorem dX3_digest_182 : decode cX3_digest 182 = .ok (.ladd, 1) := by decide +kernel
theorem dX3_digest_183 : decode cX3_digest 183 = .ok (.lstore_n 1, 1) := by decide +kernel
theorem dX3_digest_184 : decode cX3_digest 184 = .ok (.iinc 3 1, 3) := by decide +kernel
theorem dX3_digest_187 : decode cX3_digest 187 = .ok (.goto (-61), 3) := by decide +kernel
theorem dX3_digest_190 : decode cX3_digest 190 = .ok (.lload_n 1, 1) := by decide +kernel
theorem dX3_digest_191 : decode cX3_digest 191 = .ok (.lreturn, 1) := by decide +kernel
theorem dX3_isWithin_0 : decode cX3_isWithin 0 = .ok (.iload_n 0, 1) := by decide +kernel
theorem dX3_isWithin_1 : decode cX3_isWithin 1 = .ok (.iload_n 1, 1) := by decide +kernel
theorem dX3_isWithin_2 : decode cX3_isWithin 2 = .ok (.if_icmp .lt 12, 3) := by decide +kernel
theorem dX3_isWithin_5 : decode cX3_isWithin 5 = .ok (.iload_n 0, 1) := by decide +kernel
theorem dX3_isWithin_6 : decode cX3_isWithin 6 = .ok (.iload_n 2, 1) := by decide +kernel
theorem dX3_isWithin_7 : decode cX3_isWithin 7 = .ok (.if_icmp .gt 7, 3) := by decide +kernel
theorem dX3_isWithin_10 : decode cX3_isWithin 10 = .ok (.iconst 1, 1) := by decide +kernel
theorem dX3_isWithin_11 : decode cX3_isWithin 11 = .ok (.goto 4, 3) := by decide +kernel
theorem dX3_isWithin_14 : decode cX3_isWithin 14 = .ok (.iconst 0, 1) := by decide +kernel
theorem dX3_isWithin_15 : decode cX3_isWithin 15 = .ok (.ireturn, 1) := by decide +kernel
set_option maxRecDepth 20000 in
theorem ggX3_isLane_X3_isWithin : GoodIn wsX3_isLane wsX3_isWithin := goodIn_r _ [4] (by decide +kernel) (by decide +kernel)
set_option maxRecDepth 20000 in
theorem gX3_isLane_X3_isWithin : GoodIn wsX3_isLane (va_wsS RX3 37 yX3_isWithin wsX3_isWithin) := goodIn_app (goodIn_of _ (by decide +kernel)) ggX3_isLane_X3_isWithin
theorem dX3_isLane_0 : decode cX3_isLane 0 = .ok (.iload_n 0, 1) := by decide +kernel
theorem dX3_isLane_1 : decode cX3_isLane 1 = .ok (.iconst 0, 1) := by decide +kernel
theorem dX3_isLane_2 : decode cX3_isLane 2 = .ok (.iconst 2, 1) := by decide +kernel
theorem dX3_isLane_3 : decode cX3_isLane 3 = .ok (.invokestatic 37, 3) := by decide +kernel
theorem dX3_isLane_6 : decode cX3_isLane 6 = .ok (.ireturn, 1) := by decide +kernel
set_option maxRecDepth 20000 in
theorem ggX3_isPlace_X3_isWithin : GoodIn wsX3_isPlace wsX3_isWithin := goodIn_r _ [4] (by decide +kernel) (by decide +kernel)
set_option maxRecDepth 20000 in
theorem gX3_isPlace_X3_isWithin : GoodIn wsX3_isPlace (va_wsS RX3 37 yX3_isWithin wsX3_isWithin) := goodIn_app (goodIn_of _ (by decide +kernel)) ggX3_isPlace_X3_isWithin
theorem dX3_isPlace_0 : decode cX3_isPlace 0 = .ok (.iload_n 0, 1) := by decide +kernel
theorem dX3_isPlace_1 : decode cX3_isPlace 1 = .ok (.iconst 0, 1) := by decide +kernel
theorem dX3_isPlace_2 : decode cX3_isPlace 2 = .ok (.bipush 59, 2) := by decide +kernel
theorem dX3_isPlace_4 : decode cX3_isPlace 4 = .ok (.invokestatic 37, 3) := by decide +kernel
theorem dX3_isPlace_7 : decode cX3_isPlace 7 = .ok (.ireturn, 1) := by decide +kernel
set_option maxRecDepth 20000 in
theorem ggX3_isFrame_X3_isWithin : GoodIn wsX3_isFrame wsX3_isWithin := goodIn_r _ [4] (by decide +kernel) (by decide +kernel)
set_option maxRecDepth 20000 in
theorem gX3_isFrame_X3_isWithin : GoodIn wsX3_isFrame (va_wsS RX3 37 yX3_isWithin wsX3_isWithin) := goodIn_app (goodIn_of _ (by decide +kernel)) ggX3_isFrame_X3_isWithin
theorem dX3_isFrame_0 : decode cX3_isFrame 0 = .ok (.iload_n 0, 1) := by decide +kernel
theorem dX3_isFrame_1 : decode cX3_isFrame 1 = .ok (.iconst 0, 1) := by decide +kernel
theorem dX3_isFrame_2 : decode cX3_isFrame 2 = .ok (.iconst 2, 1) := by decide +kernel
theorem dX3_isFrame_3 : decode cX3_isFrame 3 = .ok (.invokestatic 37, 3) := by decide +kernel
theorem dX3_isFrame_6 : decode cX3_isFrame 6 = .ok (.ireturn, 1) := by decide +kernel
theorem dX3_waxOf_0 : decode cX3_waxOf 0 = .ok (.iload_n 0, 1) := by decide +kernel
theorem dX3_waxOf_1 : decode cX3_waxOf 1 = .ok (.ifCond .ne 8, 3) := by decide +kernel
theorem dX3_waxOf_4 : decode cX3_waxOf 4 = .ok (.bipush 20, 2) := by decide +kernel
theorem dX3_waxOf_6 : decode cX3_waxOf 6 = .ok (.goto 15, 3) := by decide +kernel
theorem dX3_waxOf_9 : decode cX3_waxOf 9 = .ok (.iload_n 0, 1) := by decide +kernel
theorem dX3_waxOf_10 : decode cX3_waxOf 10 = .ok (.iconst 1, 1) := by decide +kernel
theorem dX3_waxOf_11 : decode cX3_waxOf 11 = .ok (.if_icmp .ne 8, 3) := by decide +kernel
theorem dX3_waxOf_14 : decode cX3_waxOf 14 = .ok (.bipush 30, 2) := by decide +kernel
theorem dX3_waxOf_16 : decode cX3_waxOf 16 = .ok (.goto 5, 3) := by decide +kernel
theorem dX3_waxOf_19 : decode cX3_waxOf 19 = .ok (.bipush 45, 2) := by decide +kernel
theorem dX3_waxOf_21 : decode cX3_waxOf 21 = .ok (.ireturn, 1) := by decide +kernel
theorem dX3_sprayTakenBy_0 : decode cX3_sprayTakenBy 0 = .ok (.iload_n 0, 1) := by decide +kernel
theorem dX3_sprayTakenBy_1 : decode cX3_sprayTakenBy 1 = .ok (.ifCond .ne 8, 3) := by decide +kernel
theorem dX3_sprayTakenBy_4 : decode cX3_sprayTakenBy 4 = .ok (.bipush 12, 2) := by decide +kernel
theorem dX3_sprayTakenBy_6 : decode cX3_sprayTakenBy 6 = .ok (.goto 14, 3) := by decide +kernel
theorem dX3_sprayTakenBy_9 : decode cX3_sprayTakenBy 9 = .ok (.iload_n 0, 1) := by decide +kernel
theorem dX3_sprayTakenBy_10 : decode cX3_sprayTakenBy 10 = .ok (.iconst 1, 1) := by decide +kernel
theorem dX3_sprayTakenBy_11 : decode cX3_sprayTakenBy 11 = .ok (.if_icmp .ne 8, 3) := by decide +kernel
theorem dX3_sprayTakenBy_14 : decode cX3_sprayTakenBy 14 = .ok (.bipush 8, 2) := by decide +kernel
theorem dX3_sprayTakenBy_16 : decode cX3_sprayTakenBy 16 = .ok (.goto 4, 3) := by decide +kernel
theorem dX3_sprayTakenBy_19 : decode cX3_sprayTakenBy 19 = .ok (.iconst 5, 1) := by decide +kernel
theorem dX3_sprayTakenBy_20 : decode cX3_sprayTakenBy 20 = .ok (.ireturn, 1) := by decide +kernel
set_option maxRecDepth 20000 in
theorem ggX3_riverFact_X1_floatingAt : GoodIn wsX3_riverFact wsX1_floatingAt := goodIn_r _ [8, 9, 10, 11, 7, 12, 13, 14, 15, 16, 17, 18, 43, 44, 45, 46, 47, 48, 49, 50, 51, 52, 53, 54, 55, 56] (by decide +kernel) (by decide +kernel)
set_option maxRecDepth 20000 in
theorem gX3_riverFact_X1_floatingAt : GoodIn wsX3_riverFact (wsV RX3 194 RX1 yX1_floatingAt wsX1_floatingAt) := goodIn_app (goodIn_of _ (by decide +kernel)) ggX3_riverFact_X1_floatingAt
set_option maxRecDepth 20000 in
theorem ggX3_riverFact_X2_get : GoodIn wsX3_riverFact wsX2_get := goodIn_r _ [17, 18, 56] (by decide +kernel) (by decide +kernel)
set_option maxRecDepth 20000 in
theorem gX3_riverFact_X2_get : GoodIn wsX3_riverFact (wsV RX3 50 RX2 yX2_get wsX2_get) := goodIn_app (goodIn_of _ (by decide +kernel)) ggX3_riverFact_X2_get
set_option maxRecDepth 20000 in
theorem ggX3_riverFact_X0_hasNet : GoodIn wsX3_riverFact wsX0_hasNet := goodIn_r _ [24, 25, 26, 14, 15, 16, 17, 18, 38, 39, 40, 41, 42, 56] (by decide +kernel) (by decide +kernel)
set_option maxRecDepth 20000 in
theorem gX3_riverFact_X0_hasNet : GoodIn wsX3_riverFact (wsV RX3 85 RX0 yX0_hasNet wsX0_hasNet) := goodIn_app (goodIn_of _ (by decide +kernel)) ggX3_riverFact_X0_hasNet
set_option maxRecDepth 20000 in
theorem ggX3_riverFact_X1_caughtAt : GoodIn wsX3_riverFact wsX1_caughtAt := goodIn_r _ [30, 31, 32, 33, 34, 13, 14, 15, 16, 17, 18, 43, 44, 45, 46, 47, 48, 49, 50, 51, 52, 53, 54, 55, 56] (by decide +kernel) (by decide +kernel)
set_option maxRecDepth 20000 in
theorem gX3_riverFact_X1_caughtAt : GoodIn wsX3_riverFact (wsV RX3 197 RX1 yX1_caughtAt wsX1_caughtAt) := goodIn_app (goodIn_of _ (by decide +kernel)) ggX3_riverFact_X1_caughtAt
theorem dX3_riverFact_0 : decode cX3_riverFact 0 = .ok (.iload_n 3, 1) := by decide +kernel
theorem dX3_riverFact_1 : decode cX3_riverFact 1 = .ok (.tableswitch 67 0 2 #[27, 37, 49], 27) := by decide +kernel
theorem dX3_riverFact_28 : decode cX3_riverFact 28 = .ok (.aload_n 0, 1) := by decide +kernel
theorem dX3_riverFact_29 : decode cX3_riverFact 29 = .ok (.getfield 19, 3) := by decide +kernel
theorem dX3_riverFact_32 : decode cX3_riverFact 32 = .ok (.iload_n 1, 1) := by decide +kernel
theorem dX3_riverFact_33 : decode cX3_riverFact 33 = .ok (.iload_n 2, 1) := by decide +kernel
theorem dX3_riverFact_34 : decode cX3_riverFact 34 = .ok (.invokevirtual 194, 3) := by decide +kernel
theorem dX3_riverFact_37 : decode cX3_riverFact 37 = .ok (.ireturn, 1) := by decide +kernel
theorem dX3_riverFact_38 : decode cX3_riverFact 38 = .ok (.aload_n 0, 1) := by decide +kernel
theorem dX3_riverFact_39 : decode cX3_riverFact 39 = .ok (.getfield 10, 3) := by decide +kernel
theorem dX3_riverFact_42 : decode cX3_riverFact 42 = .ok (.getfield 68, 3) := by decide +kernel
theorem dX3_riverFact_45 : decode cX3_riverFact 45 = .ok (.iload_n 2, 1) := by decide +kernel
theorem dX3_riverFact_46 : decode cX3_riverFact 46 = .ok (.invokevirtual 50, 3) := by decide +kernel
theorem dX3_riverFact_49 : decode cX3_riverFact 49 = .ok (.ireturn, 1) := by decide +kernel
theorem dX3_riverFact_50 : decode cX3_riverFact 50 = .ok (.aload_n 0, 1) := by decide +kernel
theorem dX3_riverFact_51 : decode cX3_riverFact 51 = .ok (.getfield 10, 3) := by decide +kernel
theorem dX3_riverFact_54 : decode cX3_riverFact 54 = .ok (.iload_n 1, 1) := by decide +kernel
theorem dX3_riverFact_55 : decode cX3_riverFact 55 = .ok (.iload_n 2, 1) := by decide +kernel
theorem dX3_riverFact_56 : decode cX3_riverFact 56 = .ok (.invokevirtual 85, 3) := by decide +kernel
theorem dX3_riverFact_59 : decode cX3_riverFact 59 = .ok (.ifCond .eq 7, 3) := by decide +kernel
theorem dX3_riverFact_62 : decode cX3_riverFact 62 = .ok (.iconst 1, 1) := by decide +kernel
theorem dX3_riverFact_63 : decode cX3_riverFact 63 = .ok (.goto 4, 3) := by decide +kernel
theorem dX3_riverFact_66 : decode cX3_riverFact 66 = .ok (.iconst 0, 1) := by decide +kernel
theorem dX3_riverFact_67 : decode cX3_riverFact 67 = .ok (.ireturn, 1) := by decide +kernel
theorem dX3_riverFact_68 : decode cX3_riverFact 68 = .ok (.aload_n 0, 1) := by decide +kernel
theorem dX3_riverFact_69 : decode cX3_riverFact 69 = .ok (.getfield 10, 3) := by decide +kernel
theorem dX3_riverFact_72 : decode cX3_riverFact 72 = .ok (.iload_n 1, 1) := by decide +kernel
theorem dX3_riverFact_73 : decode cX3_riverFact 73 = .ok (.iload_n 2, 1) := by decide +kernel
theorem dX3_riverFact_74 : decode cX3_riverFact 74 = .ok (.invokevirtual 85, 3) := by decide +kernel
theorem dX3_riverFact_77 : decode cX3_riverFact 77 = .ok (.ifCond .eq 15, 3) := by decide +kernel
theorem dX3_riverFact_80 : decode cX3_riverFact 80 = .ok (.aload_n 0, 1) := by decide +kernel
theorem dX3_riverFact_81 : decode cX3_riverFact 81 = .ok (.getfield 19, 3) := by decide +kernel
theorem dX3_riverFact_84 : decode cX3_riverFact 84 = .ok (.iload_n 1, 1) := by decide +kernel
theorem dX3_riverFact_85 : decode cX3_riverFact 85 = .ok (.iload_n 2, 1) := by decide +kernel
theorem dX3_riverFact_86 : decode cX3_riverFact 86 = .ok (.invokevirtual 197, 3) := by decide +kernel
theorem dX3_riverFact_89 : decode cX3_riverFact 89 = .ok (.goto 4, 3) := by decide +kernel
theorem dX3_riverFact_92 : decode cX3_riverFact 92 = .ok (.iconst 0, 1) := by decide +kernel
theorem dX3_riverFact_93 : decode cX3_riverFact 93 = .ok (.ireturn, 1) := by decide +kernel
set_option maxRecDepth 20000 in
theorem ggX3_nextWeir_X1_isAfloat : GoodIn wsX3_nextWeir wsX1_isAfloat := goodIn_r _ [9, 10, 11, 12, 13, 8, 14, 15, 16, 17, 18, 19, 20, 21, 22, 23, 24, 29, 30, 31, 32, 33, 34, 35, 36, 37, 38, 39, 40, 41, 47] (by decide +kernel) (by decide +kernel)
set_option maxRecDepth 20000 in
theorem gX3_nextWeir_X1_isAfloat : GoodIn wsX3_nextWeir (wsV RX3 124 RX1 yX1_isAfloat wsX1_isAfloat) := goodIn_app (goodIn_of _ (by decide +kernel)) ggX3_nextWeir_X1_isAfloat
set_option maxRecDepth 20000 in
theorem ggX3_nextWeir_X2_get : GoodIn wsX3_nextWeir wsX2_get := goodIn_r _ [23, 24, 47] (by decide +kernel) (by decide +kernel)
set_option maxRecDepth 20000 in
theorem gX3_nextWeir_X2_get : GoodIn wsX3_nextWeir (wsV RX3 50 RX2 yX2_get wsX2_get) := goodIn_app (goodIn_of _ (by decide +kernel)) ggX3_nextWeir_X2_get
theorem dX3_nextWeir_0 : decode cX3_nextWeir 0 = .ok (.aload_n 0, 1) := by decide +kernel
theorem dX3_nextWeir_1 : decode cX3_nextWeir 1 = .ok (.getfield 19, 3) := by decide +kernel
theorem dX3_nextWeir_4 : decode cX3_nextWeir 4 = .ok (.iload_n 1, 1) := by decide +kernel
theorem dX3_nextWeir_5 : decode cX3_nextWeir 5 = .ok (.invokevirtual 124, 3) := by decide +kernel
theorem dX3_nextWeir_8 : decode cX3_nextWeir 8 = .ok (.ifCond .ne 5, 3) := by decide +kernel
theorem dX3_nextWeir_11 : decode cX3_nextWeir 11 = .ok (.iconst (-1), 1) := by decide +kernel
theorem dX3_nextWeir_12 : decode cX3_nextWeir 12 = .ok (.ireturn, 1) := by decide +kernel
theorem dX3_nextWeir_13 : decode cX3_nextWeir 13 = .ok (.aload_n 0, 1) := by decide +kernel
theorem dX3_nextWeir_14 : decode cX3_nextWeir 14 = .ok (.getfield 19, 3) := by decide +kernel
theorem dX3_nextWeir_17 : decode cX3_nextWeir 17 = .ok (.getfield 132, 3) := by decide +kernel
theorem dX3_nextWeir_20 : decode cX3_nextWeir 20 = .ok (.iload_n 1, 1) := by decide +kernel
theorem dX3_nextWeir_21 : decode cX3_nextWeir 21 = .ok (.invokevirtual 50, 3) := by decide +kernel
theorem dX3_nextWeir_24 : decode cX3_nextWeir 24 = .ok (.iconst 1, 1) := by decide +kernel
theorem dX3_nextWeir_25 : decode cX3_nextWeir 25 = .ok (.iadd, 1) := by decide +kernel
theorem dX3_nextWeir_26 : decode cX3_nextWeir 26 = .ok (.istore_n 2, 1) := by decide +kernel
theorem dX3_nextWeir_27 : decode cX3_nextWeir 27 = .ok (.iload_n 2, 1) := by decide +kernel
theorem dX3_nextWeir_28 : decode cX3_nextWeir 28 = .ok (.bipush 60, 2) := by decide +kernel
theorem dX3_nextWeir_30 : decode cX3_nextWeir 30 = .ok (.if_icmp .ge 25, 3) := by decide +kernel
theorem dX3_nextWeir_33 : decode cX3_nextWeir 33 = .ok (.aload_n 0, 1) := by decide +kernel
theorem dX3_nextWeir_34 : decode cX3_nextWeir 34 = .ok (.getfield 10, 3) := by decide +kernel
theorem dX3_nextWeir_37 : decode cX3_nextWeir 37 = .ok (.getfield 68, 3) := by decide +kernel
theorem dX3_nextWeir_40 : decode cX3_nextWeir 40 = .ok (.iload_n 2, 1) := by decide +kernel
theorem dX3_nextWeir_41 : decode cX3_nextWeir 41 = .ok (.invokevirtual 50, 3) := by decide +kernel
theorem dX3_nextWeir_44 : decode cX3_nextWeir 44 = .ok (.ifCond .le 5, 3) := by decide +kernel
theorem dX3_nextWeir_47 : decode cX3_nextWeir 47 = .ok (.iload_n 2, 1) := by decide +kernel
theorem dX3_nextWeir_48 : decode cX3_nextWeir 48 = .ok (.ireturn, 1) := by decide +kernel
theorem dX3_nextWeir_49 : decode cX3_nextWeir 49 = .ok (.iinc 2 1, 3) := by decide +kernel
theorem dX3_nextWeir_52 : decode cX3_nextWeir 52 = .ok (.goto (-25), 3) := by decide +kernel
theorem dX3_nextWeir_55 : decode cX3_nextWeir 55 = .ok (.iconst (-1), 1) := by decide +kernel
theorem dX3_nextWeir_56 : decode cX3_nextWeir 56 = .ok (.ireturn, 1) := by decide +kernel
set_option maxRecDepth 20000 in
theorem ggX3_counted_X1_tally : GoodIn wsX3_counted wsX1_tally := goodIn_r _ [11, 12, 13, 14, 15, 10, 16, 17, 18, 19, 20, 21, 22, 23, 24, 25, 29, 30, 31, 32, 33, 34, 35, 36, 37, 38, 39, 40, 41, 47] (by decide +kernel) (by decide +kernel)
set_option maxRecDepth 20000 in
theorem gX3_counted_X1_tally : GoodIn wsX3_counted (wsV RX3 172 RX1 yX1_tally wsX1_tally) := goodIn_app (goodIn_of _ (by decide +kernel)) ggX3_counted_X1_tally
theorem dX3_counted_0 : decode cX3_counted 0 = .ok (.iload_n 1, 1) := by decide +kernel
theorem dX3_counted_1 : decode cX3_counted 1 = .ok (.tableswitch 83 0 8 #[51, 59, 83, 83, 83, 83, 83, 67, 75], 51) := by decide +kernel
theorem dX3_counted_52 : decode cX3_counted 52 = .ok (.aload_n 0, 1) := by decide +kernel
theorem dX3_counted_53 : decode cX3_counted 53 = .ok (.getfield 19, 3) := by decide +kernel
theorem dX3_counted_56 : decode cX3_counted 56 = .ok (.getfield 200, 3) := by decide +kernel
theorem dX3_counted_59 : decode cX3_counted 59 = .ok (.ireturn, 1) := by decide +kernel
theorem dX3_counted_60 : decode cX3_counted 60 = .ok (.aload_n 0, 1) := by decide +kernel
theorem dX3_counted_61 : decode cX3_counted 61 = .ok (.getfield 19, 3) := by decide +kernel
theorem dX3_counted_64 : decode cX3_counted 64 = .ok (.getfield 110, 3) := by decide +kernel
theorem dX3_counted_67 : decode cX3_counted 67 = .ok (.ireturn, 1) := by decide +kernel
theorem dX3_counted_68 : decode cX3_counted 68 = .ok (.aload_n 0, 1) := by decide +kernel
theorem dX3_counted_69 : decode cX3_counted 69 = .ok (.getfield 10, 3) := by decide +kernel
theorem dX3_counted_72 : decode cX3_counted 72 = .ok (.getfield 64, 3) := by decide +kernel
theorem dX3_counted_75 : decode cX3_counted 75 = .ok (.ireturn, 1) := by decide +kernel
theorem dX3_counted_76 : decode cX3_counted 76 = .ok (.aload_n 0, 1) := by decide +kernel
theorem dX3_counted_77 : decode cX3_counted 77 = .ok (.getfield 10, 3) := by decide +kernel
theorem dX3_counted_80 : decode cX3_counted 80 = .ok (.getfield 82, 3) := by decide +kernel
theorem dX3_counted_83 : decode cX3_counted 83 = .ok (.ireturn, 1) := by decide +kernel
theorem dX3_counted_84 : decode cX3_counted 84 = .ok (.aload_n 0, 1) := by decide +kernel
theorem dX3_counted_85 : decode cX3_counted 85 = .ok (.getfield 19, 3) := by decide +kernel
theorem dX3_counted_88 : decode cX3_counted 88 = .ok (.iload_n 1, 1) := by decide +kernel
theorem dX3_counted_89 : decode cX3_counted 89 = .ok (.invokevirtual 172, 3) := by decide +kernel
theorem dX3_counted_92 : decode cX3_counted 92 = .ok (.ireturn, 1) := by decide +kernel
set_option maxRecDepth 20000 in
theorem ggX3_minutesToNet_X1_copy : GoodIn wsX3_minutesToNet wsX1_copy := goodIn_r _ [9, 10, 11, 12, 13, 14, 15, 16, 17, 18, 19, 20, 21, 22, 23, 24, 25, 26, 27, 28, 29, 30, 31, 118, 119, 120, 121, 122, 123, 124, 125, 126, 127, 128, 129, 130, 131] (by decide +kernel) (by decide +kernel)
set_option maxRecDepth 20000 in
theorem gX3_minutesToNet_X1_copy : GoodIn wsX3_minutesToNet (wsV RX3 179 RX1 yX1_copy wsX1_copy) := goodIn_app (goodIn_of _ (by decide +kernel)) ggX3_minutesToNet_X1_copy
set_option maxRecDepth 20000 in
theorem ggX3_minutesToNet_X1_add : GoodIn wsX3_minutesToNet wsX1_add := goodIn_r _ [35, 20, 10, 11, 12, 13, 14, 15, 16, 17, 18, 36, 37, 38, 25, 39, 27, 40, 41, 42, 43, 44, 45, 8, 46, 19, 47, 29, 30, 31, 48, 49, 50, 118, 119, 120, 121, 122, 123, 124, 125, 126, 127, 128, 129, 130, 131] (by decide +kernel) (by decide +kernel)
set_option maxRecDepth 20000 in
theorem gX3_minutesToNet_X1_add : GoodIn wsX3_minutesToNet (wsV RX3 115 RX1 yX1_add wsX1_add) := goodIn_app (goodIn_of _ (by decide +kernel)) ggX3_minutesToNet_X1_add
set_option maxRecDepth 20000 in
theorem ggX3_minutesToNet_X1_isBurning : GoodIn wsX3_minutesToNet wsX1_isBurning := goodIn_r _ [54, 16, 55, 56, 57, 8, 58, 20, 59, 41, 60, 47, 29, 30, 25, 31, 27, 118, 119, 120, 121, 122, 123, 124, 125, 126, 127, 128, 129, 130, 131] (by decide +kernel) (by decide +kernel)
set_option maxRecDepth 20000 in
theorem gX3_minutesToNet_X1_isBurning : GoodIn wsX3_minutesToNet (wsV RX3 152 RX1 yX1_isBurning wsX1_isBurning) := goodIn_app (goodIn_of _ (by decide +kernel)) ggX3_minutesToNet_X1_isBurning
set_option maxRecDepth 20000 in
theorem ggX3_minutesToNet_X1_passMinutes : GoodIn wsX3_minutesToNet wsX1_passMinutes := goodIn_r _ [64, 65, 21, 66, 67, 68, 8, 69, 20, 13, 12, 70, 71, 72, 73, 17, 55, 56, 57, 58, 59, 41, 60, 47, 29, 30, 25, 31, 27, 36, 37, 38, 39, 74, 75, 76, 77, 78, 16, 79, 80, 81, 82, 83, 10, 19, 48, 49, 50, 84, 85, 86, 87, 43, 44, 45, 46, 88, 89, 90, 91, 18, 92, 93, 94, 95, 15, 96, 97, 98, 99, 100, 101, 102, 103, 104, 105, 106, 107, 108, 109, 110, 111, 112, 14, 113, 52, 53, 54, 118, 119, 120, 121, 122, 123, 124, 125, 126, 127, 128, 129, 130, 131, 132, 133, 134, 135, 136] (by decide +kernel) (by decide +kernel)
set_option maxRecDepth 20000 in
theorem gX3_minutesToNet_X1_passMinutes : GoodIn wsX3_minutesToNet (wsV RX3 175 RX1 yX1_passMinutes wsX1_passMinutes) := goodIn_app (goodIn_of _ (by decide +kernel)) ggX3_minutesToNet_X1_passMinutes
set_option maxRecDepth 20000 in
theorem ggX3_minutesToNet_X2_get : GoodIn wsX3_minutesToNet wsX2_get := goodIn_r _ [31, 27, 131] (by decide +kernel) (by decide +kernel)
set_option maxRecDepth 20000 in
theorem gX3_minutesToNet_X2_get : GoodIn wsX3_minutesToNet (wsV RX3 50 RX2 yX2_get wsX2_get) := goodIn_app (goodIn_of _ (by decide +kernel)) ggX3_minutesToNet_X2_get
theorem dX3_minutesToNet_0 : decode cX3_minutesToNet 0 = .ok (.aload_n 0, 1) := by decide +kernel
theorem dX3_minutesToNet_1 : decode cX3_minutesToNet 1 = .ok (.getfield 23, 3) := by decide +kernel
theorem dX3_minutesToNet_4 : decode cX3_minutesToNet 4 = .ok (.aload_n 0, 1) := by decide +kernel
theorem dX3_minutesToNet_5 : decode cX3_minutesToNet 5 = .ok (.getfield 19, 3) := by decide +kernel
theorem dX3_minutesToNet_8 : decode cX3_minutesToNet 8 = .ok (.invokevirtual 179, 3) := by decide +kernel
theorem dX3_minutesToNet_11 : decode cX3_minutesToNet 11 = .ok (.aload_n 0, 1) := by decide +kernel
theorem dX3_minutesToNet_12 : decode cX3_minutesToNet 12 = .ok (.getfield 23, 3) := by decide +kernel
theorem dX3_minutesToNet_15 : decode cX3_minutesToNet 15 = .ok (.iload_n 1, 1) := by decide +kernel
theorem dX3_minutesToNet_16 : decode cX3_minutesToNet 16 = .ok (.iconst 0, 1) := by decide +kernel
theorem dX3_minutesToNet_17 : decode cX3_minutesToNet 17 = .ok (.iload_n 2, 1) := by decide +kernel
theorem dX3_minutesToNet_18 : decode cX3_minutesToNet 18 = .ok (.iconst 0, 1) := by decide +kernel
theorem dX3_minutesToNet_19 : decode cX3_minutesToNet 19 = .ok (.invokevirtual 115, 3) := by decide +kernel
theorem dX3_minutesToNet_22 : decode cX3_minutesToNet 22 = .ok (.istore_n 3, 1) := by decide +kernel
theorem dX3_minutesToNet_23 : decode cX3_minutesToNet 23 = .ok (.iconst 1, 1) := by decide +kernel
theorem dX3_minutesToNet_24 : decode cX3_minutesToNet 24 = .ok (.istore 4, 2) := by decide +kernel
theorem dX3_minutesToNet_26 : decode cX3_minutesToNet 26 = .ok (.iload 4, 2) := by decide +kernel
theorem dX3_minutesToNet_28 : decode cX3_minutesToNet 28 = .ok (.bipush 60, 2) := by decide +kernel
theorem dX3_minutesToNet_30 : decode cX3_minutesToNet 30 = .ok (.if_icmp .gt 61, 3) := by decide +kernel
theorem dX3_minutesToNet_33 : decode cX3_minutesToNet 33 = .ok (.aload_n 0, 1) := by decide +kernel
theorem dX3_minutesToNet_34 : decode cX3_minutesToNet 34 = .ok (.getfield 23, 3) := by decide +kernel
theorem dX3_minutesToNet_37 : decode cX3_minutesToNet 37 = .ok (.iload_n 3, 1) := by decide +kernel
theorem dX3_minutesToNet_38 : decode cX3_minutesToNet 38 = .ok (.invokevirtual 152, 3) := by decide +kernel
theorem dX3_minutesToNet_41 : decode cX3_minutesToNet 41 = .ok (.ifCond .eq 50, 3) := by decide +kernel
theorem dX3_minutesToNet_44 : decode cX3_minutesToNet 44 = .ok (.aload_n 0, 1) := by decide +kernel
theorem dX3_minutesToNet_45 : decode cX3_minutesToNet 45 = .ok (.getfield 23, 3) := by decide +kernel
theorem dX3_minutesToNet_48 : decode cX3_minutesToNet 48 = .ok (.iconst 1, 1) := by decide +kernel
theorem dX3_minutesToNet_49 : decode cX3_minutesToNet 49 = .ok (.aload_n 0, 1) := by decide +kernel
theorem dX3_minutesToNet_50 : decode cX3_minutesToNet 50 = .ok (.getfield 10, 3) := by decide +kernel
theorem dX3_minutesToNet_53 : decode cX3_minutesToNet 53 = .ok (.invokevirtual 175, 3) := by decide +kernel
theorem dX3_minutesToNet_56 : decode cX3_minutesToNet 56 = .ok (.aload_n 0, 1) := by decide +kernel
theorem dX3_minutesToNet_57 : decode cX3_minutesToNet 57 = .ok (.getfield 23, 3) := by decide +kernel
theorem dX3_minutesToNet_60 : decode cX3_minutesToNet 60 = .ok (.iload_n 3, 1) := by decide +kernel
theorem dX3_minutesToNet_61 : decode cX3_minutesToNet 61 = .ok (.invokevirtual 152, 3) := by decide +kernel
theorem dX3_minutesToNet_64 : decode cX3_minutesToNet 64 = .ok (.ifCond .eq 21, 3) := by decide +kernel
theorem dX3_minutesToNet_67 : decode cX3_minutesToNet 67 = .ok (.aload_n 0, 1) := by decide +kernel
theorem dX3_minutesToNet_68 : decode cX3_minutesToNet 68 = .ok (.getfield 23, 3) := by decide +kernel
theorem dX3_minutesToNet_71 : decode cX3_minutesToNet 71 = .ok (.getfield 203, 3) := by decide +kernel
theorem dX3_minutesToNet_74 : decode cX3_minutesToNet 74 = .ok (.iload_n 3, 1) := by decide +kernel
theorem dX3_minutesToNet_75 : decode cX3_minutesToNet 75 = .ok (.invokevirtual 50, 3) := by decide +kernel
theorem dX3_minutesToNet_78 : decode cX3_minutesToNet 78 = .ok (.iconst 1, 1) := by decide +kernel
theorem dX3_minutesToNet_79 : decode cX3_minutesToNet 79 = .ok (.if_icmp .ne 6, 3) := by decide +kernel
theorem dX3_minutesToNet_82 : decode cX3_minutesToNet 82 = .ok (.iload 4, 2) := by decide +kernel
theorem dX3_minutesToNet_84 : decode cX3_minutesToNet 84 = .ok (.ireturn, 1) := by decide +kernel
theorem dX3_minutesToNet_85 : decode cX3_minutesToNet 85 = .ok (.iinc 4 1, 3) := by decide +kernel
theorem dX3_minutesToNet_88 : decode cX3_minutesToNet 88 = .ok (.goto (-62), 3) := by decide +kernel
theorem dX3_minutesToNet_91 : decode cX3_minutesToNet 91 = .ok (.bipush 61, 2) := by decide +kernel
theorem dX3_minutesToNet_93 : decode cX3_minutesToNet 93 = .ok (.ireturn, 1) := by decide +kernel
theorem dX4_init_0 : decode cX4_init 0 = .ok (.aload_n 0, 1) := by decide +kernel
theorem dX4_init_1 : decode cX4_init 1 = .ok (.aload_n 1, 1) := by decide +kernel
theorem dX4_init_2 : decode cX4_init 2 = .ok (.putfield 3, 3) := by decide +kernel
theorem dX4_init_5 : decode cX4_init 5 = .ok (.aload_n 0, 1) := by decide +kernel
theorem dX4_init_6 : decode cX4_init 6 = .ok (.invokespecial 9, 3) := by decide +kernel
theorem dX4_init_9 : decode cX4_init 9 = .ok (.aload_n 0, 1) := by decide +kernel
theorem dX4_init_10 : decode cX4_init 10 = .ok (.bipush 41, 2) := by decide +kernel
theorem dX4_init_12 : decode cX4_init 12 = .ok (.newarray .int, 2) := by decide +kernel
theorem dX4_init_14 : decode cX4_init 14 = .ok (.putfield 15, 3) := by decide +kernel
theorem dX4_init_17 : decode cX4_init 17 = .ok (.aload_n 0, 1) := by decide +kernel
theorem dX4_init_18 : decode cX4_init 18 = .ok (.bipush 41, 2) := by decide +kernel
theorem dX4_init_20 : decode cX4_init 20 = .ok (.newarray .int, 2) := by decide +kernel
theorem dX4_init_22 : decode cX4_init 22 = .ok (.putfield 19, 3) := by decide +kernel
theorem dX4_init_25 : decode cX4_init 25 = .ok (.aload_n 0, 1) := by decide +kernel
theorem dX4_init_26 : decode cX4_init 26 = .ok (.bipush 41, 2) := by decide +kernel
theorem dX4_init_28 : decode cX4_init 28 = .ok (.newarray .int, 2) := by decide +kernel
theorem dX4_init_30 : decode cX4_init 30 = .ok (.putfield 22, 3) := by decide +kernel
theorem dX4_init_33 : decode cX4_init 33 = .ok (.aload_n 0, 1) := by decide +kernel
theorem dX4_init_34 : decode cX4_init 34 = .ok (.bipush 41, 2) := by decide +kernel
theorem dX4_init_36 : decode cX4_init 36 = .ok (.newarray .int, 2) := by decide +kernel
theorem dX4_init_38 : decode cX4_init 38 = .ok (.putfield 25, 3) := by decide +kernel
theorem dX4_init_41 : decode cX4_init 41 = .ok (.aload_n 0, 1) := by decide +kernel
theorem dX4_init_42 : decode cX4_init 42 = .ok (.bipush 41, 2) := by decide +kernel
theorem dX4_init_44 : decode cX4_init 44 = .ok (.newarray .int, 2) := by decide +kernel
theorem dX4_init_46 : decode cX4_init 46 = .ok (.putfield 28, 3) := by decide +kernel
theorem dX4_init_49 : decode cX4_init 49 = .ok (.aload_n 0, 1) := by decide +kernel
theorem dX4_init_50 : decode cX4_init 50 = .ok (.bipush 41, 2) := by decide +kernel
theorem dX4_init_52 : decode cX4_init 52 = .ok (.newarray .int, 2) := by decide +kernel
theorem dX4_init_54 : decode cX4_init 54 = .ok (.putfield 31, 3) := by decide +kernel
theorem dX4_init_57 : decode cX4_init 57 = .ok (.aload_n 0, 1) := by decide +kernel
theorem dX4_init_58 : decode cX4_init 58 = .ok (.bipush 41, 2) := by decide +kernel
theorem dX4_init_60 : decode cX4_init 60 = .ok (.newarray .int, 2) := by decide +kernel
theorem dX4_init_62 : decode cX4_init 62 = .ok (.putfield 34, 3) := by decide +kernel
theorem dX4_init_65 : decode cX4_init 65 = .ok (.aload_n 0, 1) := by decide +kernel
theorem dX4_init_66 : decode cX4_init 66 = .ok (.bipush 41, 2) := by decide +kernel
theorem dX4_init_68 : decode cX4_init 68 = .ok (.newarray .int, 2) := by decide +kernel
theorem dX4_init_70 : decode cX4_init 70 = .ok (.putfield 37, 3) := by decide +kernel
theorem dX4_init_73 : decode cX4_init 73 = .ok (.aload_n 0, 1) := by decide +kernel
theorem dX4_init_74 : decode cX4_init 74 = .ok (.bipush 41, 2) := by decide +kernel
theorem dX4_init_76 : decode cX4_init 76 = .ok (.newarray .int, 2) := by decide +kernel
theorem dX4_init_78 : decode cX4_init 78 = .ok (.putfield 40, 3) := by decide +kernel
theorem dX4_init_81 : decode cX4_init 81 = .ok (.aload_n 0, 1) := by decide +kernel
theorem dX4_init_82 : decode cX4_init 82 = .ok (.bipush 41, 2) := by decide +kernel
theorem dX4_init_84 : decode cX4_init 84 = .ok (.newarray .int, 2) := by decide +kernel
theorem dX4_init_86 : decode cX4_init 86 = .ok (.putfield 43, 3) := by decide +kernel
theorem dX4_init_89 : decode cX4_init 89 = .ok (.return_, 1) := by decide +kernel
theorem dX4_copy_0 : decode cX4_copy 0 = .ok (.aload_n 1, 1) := by decide +kernel
theorem dX4_copy_1 : decode cX4_copy 1 = .ok (.iconst 0, 1) := by decide +kernel
theorem dX4_copy_2 : decode cX4_copy 2 = .ok (.aload_n 2, 1) := by decide +kernel
theorem dX4_copy_3 : decode cX4_copy 3 = .ok (.iconst 0, 1) := by decide +kernel
theorem dX4_copy_4 : decode cX4_copy 4 = .ok (.aload_n 1, 1) := by decide +kernel
theorem dX4_copy_5 : decode cX4_copy 5 = .ok (.arraylength, 1) := by decide +kernel
theorem dX4_copy_6 : decode cX4_copy 6 = .ok (.invokestatic 46, 3) := by decide +kernel
theorem dX4_copy_9 : decode cX4_copy 9 = .ok (.return_, 1) := by decide +kernel
set_option maxRecDepth 20000 in
theorem ggX4_become_X4_copy : GoodIn wsX4_become wsX4_copy := goodIn_r _ [16, 17, 18, 19, 20] (by decide +kernel) (by decide +kernel)
set_option maxRecDepth 20000 in
theorem gX4_become_X4_copy : GoodIn wsX4_become (wsV RX4 59 RX4 yX4_copy wsX4_copy) := goodIn_app (goodIn_of _ (by decide +kernel)) ggX4_become_X4_copy
theorem dX4_become_0 : decode cX4_become 0 = .ok (.aload_n 0, 1) := by decide +kernel
theorem dX4_become_1 : decode cX4_become 1 = .ok (.aload_n 1, 1) := by decide +kernel
theorem dX4_become_2 : decode cX4_become 2 = .ok (.getfield 52, 3) := by decide +kernel
theorem dX4_become_5 : decode cX4_become 5 = .ok (.putfield 52, 3) := by decide +kernel
theorem dX4_become_8 : decode cX4_become 8 = .ok (.aload_n 0, 1) := by decide +kernel
theorem dX4_become_9 : decode cX4_become 9 = .ok (.aload_n 1, 1) := by decide +kernel
theorem dX4_become_10 : decode cX4_become 10 = .ok (.getfield 56, 3) := by decide +kernel
theorem dX4_become_13 : decode cX4_become 13 = .ok (.putfield 56, 3) := by decide +kernel
theorem dX4_become_16 : decode cX4_become 16 = .ok (.aload_n 0, 1) := by decide +kernel
theorem dX4_become_17 : decode cX4_become 17 = .ok (.aload_n 1, 1) := by decide +kernel
theorem dX4_become_18 : decode cX4_become 18 = .ok (.getfield 15, 3) := by decide +kernel
theorem dX4_become_21 : decode cX4_become 21 = .ok (.aload_n 0, 1) := by decide +kernel
theorem dX4_become_22 : decode cX4_become 22 = .ok (.getfield 15, 3) := by decide +kernel
theorem dX4_become_25 : decode cX4_become 25 = .ok (.invokevirtual 59, 3) := by decide +kernel
theorem dX4_become_28 : decode cX4_become 28 = .ok (.aload_n 0, 1) := by decide +kernel
theorem dX4_become_29 : decode cX4_become 29 = .ok (.aload_n 1, 1) := by decide +kernel
theorem dX4_become_30 : decode cX4_become 30 = .ok (.getfield 19, 3) := by decide +kernel
theorem dX4_become_33 : decode cX4_become 33 = .ok (.aload_n 0, 1) := by decide +kernel
theorem dX4_become_34 : decode cX4_become 34 = .ok (.getfield 19, 3) := by decide +kernel
theorem dX4_become_37 : decode cX4_become 37 = .ok (.invokevirtual 59, 3) := by decide +kernel
theorem dX4_become_40 : decode cX4_become 40 = .ok (.aload_n 0, 1) := by decide +kernel
theorem dX4_become_41 : decode cX4_become 41 = .ok (.aload_n 1, 1) := by decide +kernel
theorem dX4_become_42 : decode cX4_become 42 = .ok (.getfield 22, 3) := by decide +kernel
theorem dX4_become_45 : decode cX4_become 45 = .ok (.aload_n 0, 1) := by decide +kernel
theorem dX4_become_46 : decode cX4_become 46 = .ok (.getfield 22, 3) := by decide +kernel
theorem dX4_become_49 : decode cX4_become 49 = .ok (.invokevirtual 59, 3) := by decide +kernel
theorem dX4_become_52 : decode cX4_become 52 = .ok (.aload_n 0, 1) := by decide +kernel
theorem dX4_become_53 : decode cX4_become 53 = .ok (.aload_n 1, 1) := by decide +kernel
theorem dX4_become_54 : decode cX4_become 54 = .ok (.getfield 25, 3) := by decide +kernel
theorem dX4_become_57 : decode cX4_become 57 = .ok (.aload_n 0, 1) := by decide +kernel
theorem dX4_become_58 : decode cX4_become 58 = .ok (.getfield 25, 3) := by decide +kernel
theorem dX4_become_61 : decode cX4_become 61 = .ok (.invokevirtual 59, 3) := by decide +kernel
theorem dX4_become_64 : decode cX4_become 64 = .ok (.aload_n 0, 1) := by decide +kernel
theorem dX4_become_65 : decode cX4_become 65 = .ok (.aload_n 1, 1) := by decide +kernel
theorem dX4_become_66 : decode cX4_become 66 = .ok (.getfield 28, 3) := by decide +kernel
theorem dX4_become_69 : decode cX4_become 69 = .ok (.aload_n 0, 1) := by decide +kernel
theorem dX4_become_70 : decode cX4_become 70 = .ok (.getfield 28, 3) := by decide +kernel
theorem dX4_become_73 : decode cX4_become 73 = .ok (.invokevirtual 59, 3) := by decide +kernel
theorem dX4_become_76 : decode cX4_become 76 = .ok (.aload_n 0, 1) := by decide +kernel
theorem dX4_become_77 : decode cX4_become 77 = .ok (.aload_n 1, 1) := by decide +kernel
theorem dX4_become_78 : decode cX4_become 78 = .ok (.getfield 31, 3) := by decide +kernel
theorem dX4_become_81 : decode cX4_become 81 = .ok (.aload_n 0, 1) := by decide +kernel
theorem dX4_become_82 : decode cX4_become 82 = .ok (.getfield 31, 3) := by decide +kernel
theorem dX4_become_85 : decode cX4_become 85 = .ok (.invokevirtual 59, 3) := by decide +kernel
theorem dX4_become_88 : decode cX4_become 88 = .ok (.aload_n 0, 1) := by decide +kernel
theorem dX4_become_89 : decode cX4_become 89 = .ok (.aload_n 1, 1) := by decide +kernel
theorem dX4_become_90 : decode cX4_become 90 = .ok (.getfield 34, 3) := by decide +kernel
theorem dX4_become_93 : decode cX4_become 93 = .ok (.aload_n 0, 1) := by decide +kernel
theorem dX4_become_94 : decode cX4_become 94 = .ok (.getfield 34, 3) := by decide +kernel
theorem dX4_become_97 : decode cX4_become 97 = .ok (.invokevirtual 59, 3) := by decide +kernel
theorem dX4_become_100 : decode cX4_become 100 = .ok (.aload_n 0, 1) := by decide +kernel
theorem dX4_become_101 : decode cX4_become 101 = .ok (.aload_n 1, 1) := by decide +kernel
theorem dX4_become_102 : decode cX4_become 102 = .ok (.getfield 37, 3) := by decide +kernel
theorem dX4_become_105 : decode cX4_become 105 = .ok (.aload_n 0, 1) := by decide +kernel
theorem dX4_become_106 : decode cX4_become 106 = .ok (.getfield 37, 3) := by decide +kernel
theorem dX4_become_109 : decode cX4_become 109 = .ok (.invokevirtual 59, 3) := by decide +kernel
theorem dX4_become_112 : decode cX4_become 112 = .ok (.aload_n 0, 1) := by decide +kernel
theorem dX4_become_113 : decode cX4_become 113 = .ok (.aload_n 1, 1) := by decide +kernel
theorem dX4_become_114 : decode cX4_become 114 = .ok (.getfield 40, 3) := by decide +kernel
theorem dX4_become_117 : decode cX4_become 117 = .ok (.aload_n 0, 1) := by decide +kernel
theorem dX4_become_118 : decode cX4_become 118 = .ok (.getfield 40, 3) := by decide +kernel
theorem dX4_become_121 : decode cX4_become 121 = .ok (.invokevirtual 59, 3) := by decide +kernel
theorem dX4_become_124 : decode cX4_become 124 = .ok (.return_, 1) := by decide +kernel
theorem dX4_launch_0 : decode cX4_launch 0 = .ok (.aload_n 0, 1) := by decide +kernel
theorem dX4_launch_1 : decode cX4_launch 1 = .ok (.getfield 15, 3) := by decide +kernel
theorem dX4_launch_4 : decode cX4_launch 4 = .ok (.aload_n 0, 1) := by decide +kernel
theorem dX4_launch_5 : decode cX4_launch 5 = .ok (.getfield 56, 3) := by decide +kernel
theorem dX4_launch_8 : decode cX4_launch 8 = .ok (.iload_n 1, 1) := by decide +kernel
theorem dX4_launch_9 : decode cX4_launch 9 = .ok (.iastore, 1) := by decide +kernel
theorem dX4_launch_10 : decode cX4_launch 10 = .ok (.aload_n 0, 1) := by decide +kernel
theorem dX4_launch_11 : decode cX4_launch 11 = .ok (.getfield 19, 3) := by decide +kernel
theorem dX4_launch_14 : decode cX4_launch 14 = .ok (.aload_n 0, 1) := by decide +kernel
theorem dX4_launch_15 : decode cX4_launch 15 = .ok (.getfield 56, 3) := by decide +kernel
theorem dX4_launch_18 : decode cX4_launch 18 = .ok (.iload_n 2, 1) := by decide +kernel
theorem dX4_launch_19 : decode cX4_launch 19 = .ok (.iastore, 1) := by decide +kernel
theorem dX4_launch_20 : decode cX4_launch 20 = .ok (.aload_n 0, 1) := by decide +kernel
theorem dX4_launch_21 : decode cX4_launch 21 = .ok (.getfield 22, 3) := by decide +kernel
theorem dX4_launch_24 : decode cX4_launch 24 = .ok (.aload_n 0, 1) := by decide +kernel
theorem dX4_launch_25 : decode cX4_launch 25 = .ok (.getfield 56, 3) := by decide +kernel
theorem dX4_launch_28 : decode cX4_launch 28 = .ok (.iload_n 3, 1) := by decide +kernel
theorem dX4_launch_29 : decode cX4_launch 29 = .ok (.iastore, 1) := by decide +kernel
theorem dX4_launch_30 : decode cX4_launch 30 = .ok (.aload_n 0, 1) := by decide +kernel
theorem dX4_launch_31 : decode cX4_launch 31 = .ok (.getfield 25, 3) := by decide +kernel
theorem dX4_launch_34 : decode cX4_launch 34 = .ok (.aload_n 0, 1) := by decide +kernel
theorem dX4_launch_35 : decode cX4_launch 35 = .ok (.getfield 56, 3) := by decide +kernel
theorem dX4_launch_38 : decode cX4_launch 38 = .ok (.iload 4, 2) := by decide +kernel
theorem dX4_launch_40 : decode cX4_launch 40 = .ok (.iastore, 1) := by decide +kernel
theorem dX4_launch_41 : decode cX4_launch 41 = .ok (.aload_n 0, 1) := by decide +kernel
theorem dX4_launch_42 : decode cX4_launch 42 = .ok (.getfield 28, 3) := by decide +kernel
theorem dX4_launch_45 : decode cX4_launch 45 = .ok (.aload_n 0, 1) := by decide +kernel
theorem dX4_launch_46 : decode cX4_launch 46 = .ok (.getfield 56, 3) := by decide +kernel
theorem dX4_launch_49 : decode cX4_launch 49 = .ok (.getstatic 63, 3) := by decide +kernel
theorem dX4_launch_52 : decode cX4_launch 52 = .ok (.iload_n 1, 1) := by decide +kernel
theorem dX4_launch_53 : decode cX4_launch 53 = .ok (.iaload, 1) := by decide +kernel
theorem dX4_launch_54 : decode cX4_launch 54 = .ok (.iastore, 1) := by decide +kernel
theorem dX4_launch_55 : decode cX4_launch 55 = .ok (.aload_n 0, 1) := by decide +kernel
theorem dX4_launch_56 : decode cX4_launch 56 = .ok (.getfield 31, 3) := by decide +kernel
theorem dX4_launch_59 : decode cX4_launch 59 = .ok (.aload_n 0, 1) := by decide +kernel
theorem dX4_launch_60 : decode cX4_launch 60 = .ok (.getfield 56, 3) := by decide +kernel
theorem dX4_launch_63 : decode cX4_launch 63 = .ok (.iconst 0, 1) := by decide +kernel
theorem dX4_launch_64 : decode cX4_launch 64 = .ok (.iastore, 1) := by decide +kernel
theorem dX4_launch_65 : decode cX4_launch 65 = .ok (.aload_n 0, 1) := by decide +kernel
theorem dX4_launch_66 : decode cX4_launch 66 = .ok (.getfield 34, 3) := by decide +kernel
theorem dX4_launch_69 : decode cX4_launch 69 = .ok (.aload_n 0, 1) := by decide +kernel
theorem dX4_launch_70 : decode cX4_launch 70 = .ok (.getfield 56, 3) := by decide +kernel
theorem dX4_launch_73 : decode cX4_launch 73 = .ok (.iconst 1, 1) := by decide +kernel
theorem dX4_launch_74 : decode cX4_launch 74 = .ok (.iastore, 1) := by decide +kernel
theorem dX4_launch_75 : decode cX4_launch 75 = .ok (.aload_n 0, 1) := by decide +kernel
theorem dX4_launch_76 : decode cX4_launch 76 = .ok (.getfield 37, 3) := by decide +kernel
theorem dX4_launch_79 : decode cX4_launch 79 = .ok (.aload_n 0, 1) := by decide +kernel
theorem dX4_launch_80 : decode cX4_launch 80 = .ok (.getfield 56, 3) := by decide +kernel
theorem dX4_launch_83 : decode cX4_launch 83 = .ok (.iconst 0, 1) := by decide +kernel
theorem dX4_launch_84 : decode cX4_launch 84 = .ok (.iastore, 1) := by decide +kernel
theorem dX4_launch_85 : decode cX4_launch 85 = .ok (.aload_n 0, 1) := by decide +kernel
theorem dX4_launch_86 : decode cX4_launch 86 = .ok (.getfield 40, 3) := by decide +kernel
theorem dX4_launch_89 : decode cX4_launch 89 = .ok (.aload_n 0, 1) := by decide +kernel
theorem dX4_launch_90 : decode cX4_launch 90 = .ok (.getfield 56, 3) := by decide +kernel
theorem dX4_launch_93 : decode cX4_launch 93 = .ok (.iconst (-1), 1) := by decide +kernel
theorem dX4_launch_94 : decode cX4_launch 94 = .ok (.iastore, 1) := by decide +kernel
theorem dX4_launch_95 : decode cX4_launch 95 = .ok (.aload_n 0, 1) := by decide +kernel
theorem dX4_launch_96 : decode cX4_launch 96 = .ok (.dup, 1) := by decide +kernel
theorem dX4_launch_97 : decode cX4_launch 97 = .ok (.getfield 56, 3) := by decide +kernel
theorem dX4_launch_100 : decode cX4_launch 100 = .ok (.iconst 1, 1) := by decide +kernel
theorem dX4_launch_101 : decode cX4_launch 101 = .ok (.iadd, 1) := by decide +kernel
theorem dX4_launch_102 : decode cX4_launch 102 = .ok (.putfield 56, 3) := by decide +kernel
theorem dX4_launch_105 : decode cX4_launch 105 = .ok (.aload_n 0, 1) := by decide +kernel
theorem dX4_launch_106 : decode cX4_launch 106 = .ok (.getfield 56, 3) := by decide +kernel
theorem dX4_launch_109 : decode cX4_launch 109 = .ok (.iconst 1, 1) := by decide +kernel
theorem dX4_launch_110 : decode cX4_launch 110 = .ok (.isub, 1) := by decide +kernel
theorem dX4_launch_111 : decode cX4_launch 111 = .ok (.ireturn, 1) := by decide +kernel
theorem dX4_isSoaked_0 : decode cX4_isSoaked 0 = .ok (.aload_n 0, 1) := by decide +kernel
theorem dX4_isSoaked_1 : decode cX4_isSoaked 1 = .ok (.getfield 31, 3) := by decide +kernel
theorem dX4_isSoaked_4 : decode cX4_isSoaked 4 = .ok (.iload_n 1, 1) := by decide +kernel
theorem dX4_isSoaked_5 : decode cX4_isSoaked 5 = .ok (.iaload, 1) := by decide +kernel
theorem dX4_isSoaked_6 : decode cX4_isSoaked 6 = .ok (.getstatic 66, 3) := by decide +kernel
theorem dX4_isSoaked_9 : decode cX4_isSoaked 9 = .ok (.aload_n 0, 1) := by decide +kernel
theorem dX4_isSoaked_10 : decode cX4_isSoaked 10 = .ok (.getfield 15, 3) := by decide +kernel
theorem dX4_isSoaked_13 : decode cX4_isSoaked 13 = .ok (.iload_n 1, 1) := by decide +kernel
theorem dX4_isSoaked_14 : decode cX4_isSoaked 14 = .ok (.iaload, 1) := by decide +kernel
theorem dX4_isSoaked_15 : decode cX4_isSoaked 15 = .ok (.iaload, 1) := by decide +kernel
theorem dX4_isSoaked_16 : decode cX4_isSoaked 16 = .ok (.if_icmp .le 7, 3) := by decide +kernel
theorem dX4_isSoaked_19 : decode cX4_isSoaked 19 = .ok (.iconst 1, 1) := by decide +kernel
theorem dX4_isSoaked_20 : decode cX4_isSoaked 20 = .ok (.goto 4, 3) := by decide +kernel
theorem dX4_isSoaked_23 : decode cX4_isSoaked 23 = .ok (.iconst 0, 1) := by decide +kernel
theorem dX4_isSoaked_24 : decode cX4_isSoaked 24 = .ok (.ireturn, 1) := by decide +kernel
theorem dX4_at_0 : decode cX4_at 0 = .ok (.iconst 0, 1) := by decide +kernel
theorem dX4_at_1 : decode cX4_at 1 = .ok (.istore 4, 2) := by decide +kernel
theorem dX4_at_3 : decode cX4_at 3 = .ok (.iconst 0, 1) := by decide +kernel
theorem dX4_at_4 : decode cX4_at 4 = .ok (.istore 5, 2) := by decide +kernel
theorem dX4_at_6 : decode cX4_at 6 = .ok (.iload 5, 2) := by decide +kernel
theorem dX4_at_8 : decode cX4_at 8 = .ok (.aload_n 0, 1) := by decide +kernel
theorem dX4_at_9 : decode cX4_at 9 = .ok (.getfield 56, 3) := by decide +kernel
theorem dX4_at_12 : decode cX4_at 12 = .ok (.if_icmp .ge 52, 3) := by decide +kernel
theorem dX4_at_15 : decode cX4_at 15 = .ok (.iload 4, 2) := by decide +kernel
theorem dX4_at_17 : decode cX4_at 17 = .ok (.aload_n 0, 1) := by decide +kernel
theorem dX4_at_18 : decode cX4_at 18 = .ok (.getfield 37, 3) := by decide +kernel
theorem dX4_at_21 : decode cX4_at 21 = .ok (.iload 5, 2) := by decide +kernel
theorem dX4_at_23 : decode cX4_at 23 = .ok (.iaload, 1) := by decide +kernel
theorem dX4_at_24 : decode cX4_at 24 = .ok (.iload_n 3, 1) := by decide +kernel
theorem dX4_at_25 : decode cX4_at 25 = .ok (.if_icmp .ne 29, 3) := by decide +kernel
theorem dX4_at_28 : decode cX4_at 28 = .ok (.aload_n 0, 1) := by decide +kernel
theorem dX4_at_29 : decode cX4_at 29 = .ok (.getfield 22, 3) := by decide +kernel
theorem dX4_at_32 : decode cX4_at 32 = .ok (.iload 5, 2) := by decide +kernel
theorem dX4_at_34 : decode cX4_at 34 = .ok (.iaload, 1) := by decide +kernel
theorem dX4_at_35 : decode cX4_at 35 = .ok (.iload_n 1, 1) := by decide +kernel
theorem dX4_at_36 : decode cX4_at 36 = .ok (.if_icmp .ne 18, 3) := by decide +kernel
theorem dX4_at_39 : decode cX4_at 39 = .ok (.aload_n 0, 1) := by decide +kernel
theorem dX4_at_40 : decode cX4_at 40 = .ok (.getfield 25, 3) := by decide +kernel
theorem dX4_at_43 : decode cX4_at 43 = .ok (.iload 5, 2) := by decide +kernel
theorem dX4_at_45 : decode cX4_at 45 = .ok (.iaload, 1) := by decide +kernel
theorem dX4_at_46 : decode cX4_at 46 = .ok (.iload_n 2, 1) := by decide +kernel
theorem dX4_at_47 : decode cX4_at 47 = .ok (.if_icmp .ne 7, 3) := by decide +kernel
theorem dX4_at_50 : decode cX4_at 50 = .ok (.iconst 1, 1) := by decide +kernel
theorem dX4_at_51 : decode cX4_at 51 = .ok (.goto 4, 3) := by decide +kernel
theorem dX4_at_54 : decode cX4_at 54 = .ok (.iconst 0, 1) := by decide +kernel
theorem dX4_at_55 : decode cX4_at 55 = .ok (.iadd, 1) := by decide +kernel
theorem dX4_at_56 : decode cX4_at 56 = .ok (.istore 4, 2) := by decide +kernel
theorem dX4_at_58 : decode cX4_at 58 = .ok (.iinc 5 1, 3) := by decide +kernel
theorem dX4_at_61 : decode cX4_at 61 = .ok (.goto (-55), 3) := by decide +kernel
theorem dX4_at_64 : decode cX4_at 64 = .ok (.iload 4, 2) := by decide +kernel
theorem dX4_at_66 : decode cX4_at 66 = .ok (.ireturn, 1) := by decide +kernel
theorem dX4_isAhead_0 : decode cX4_isAhead 0 = .ok (.aload_n 0, 1) := by decide +kernel
theorem dX4_isAhead_1 : decode cX4_isAhead 1 = .ok (.getfield 25, 3) := by decide +kernel
theorem dX4_isAhead_4 : decode cX4_isAhead 4 = .ok (.iload_n 1, 1) := by decide +kernel
theorem dX4_isAhead_5 : decode cX4_isAhead 5 = .ok (.iaload, 1) := by decide +kernel
theorem dX4_isAhead_6 : decode cX4_isAhead 6 = .ok (.aload_n 0, 1) := by decide +kernel
theorem dX4_isAhead_7 : decode cX4_isAhead 7 = .ok (.getfield 25, 3) := by decide +kernel
theorem dX4_isAhead_10 : decode cX4_isAhead 10 = .ok (.iload_n 2, 1) := by decide +kernel
theorem dX4_isAhead_11 : decode cX4_isAhead 11 = .ok (.iaload, 1) := by decide +kernel
theorem dX4_isAhead_12 : decode cX4_isAhead 12 = .ok (.if_icmp .eq 24, 3) := by decide +kernel
theorem dX4_isAhead_15 : decode cX4_isAhead 15 = .ok (.aload_n 0, 1) := by decide +kernel
theorem dX4_isAhead_16 : decode cX4_isAhead 16 = .ok (.getfield 25, 3) := by decide +kernel
theorem dX4_isAhead_19 : decode cX4_isAhead 19 = .ok (.iload_n 1, 1) := by decide +kernel
theorem dX4_isAhead_20 : decode cX4_isAhead 20 = .ok (.iaload, 1) := by decide +kernel
theorem dX4_isAhead_21 : decode cX4_isAhead 21 = .ok (.aload_n 0, 1) := by decide +kernel
theorem dX4_isAhead_22 : decode cX4_isAhead 22 = .ok (.getfield 25, 3) := by decide +kernel
theorem dX4_isAhead_25 : decode cX4_isAhead 25 = .ok (.iload_n 2, 1) := by decide +kernel
theorem dX4_isAhead_26 : decode cX4_isAhead 26 = .ok (.iaload, 1) := by decide +kernel
theorem dX4_isAhead_27 : decode cX4_isAhead 27 = .ok (.if_icmp .le 7, 3) := by decide +kernel
theorem dX4_isAhead_30 : decode cX4_isAhead 30 = .ok (.iconst 1, 1) := by decide +kernel
theorem dX4_isAhead_31 : decode cX4_isAhead 31 = .ok (.goto 4, 3) := by decide +kernel
theorem dX4_isAhead_34 : decode cX4_isAhead 34 = .ok (.iconst 0, 1) := by decide +kernel
theorem dX4_isAhead_35 : decode cX4_isAhead 35 = .ok (.ireturn, 1) := by decide +kernel
theorem dX4_isAhead_36 : decode cX4_isAhead 36 = .ok (.aload_n 0, 1) := by decide +kernel
theorem dX4_isAhead_37 : decode cX4_isAhead 37 = .ok (.getfield 22, 3) := by decide +kernel
theorem dX4_isAhead_40 : decode cX4_isAhead 40 = .ok (.iload_n 1, 1) := by decide +kernel
theorem dX4_isAhead_41 : decode cX4_isAhead 41 = .ok (.iaload, 1) := by decide +kernel
theorem dX4_isAhead_42 : decode cX4_isAhead 42 = .ok (.aload_n 0, 1) := by decide +kernel
theorem dX4_isAhead_43 : decode cX4_isAhead 43 = .ok (.getfield 22, 3) := by decide +kernel
theorem dX4_isAhead_46 : decode cX4_isAhead 46 = .ok (.iload_n 2, 1) := by decide +kernel
theorem dX4_isAhead_47 : decode cX4_isAhead 47 = .ok (.iaload, 1) := by decide +kernel
theorem dX4_isAhead_48 : decode cX4_isAhead 48 = .ok (.if_icmp .eq 26, 3) := by decide +kernel
theorem dX4_isAhead_51 : decode cX4_isAhead 51 = .ok (.aload_n 0, 1) := by decide +kernel
theorem dX4_isAhead_52 : decode cX4_isAhead 52 = .ok (.getfield 22, 3) := by decide +kernel
theorem dX4_isAhead_55 : decode cX4_isAhead 55 = .ok (.iload_n 1, 1) := by decide +kernel
theorem dX4_isAhead_56 : decode cX4_isAhead 56 = .ok (.iaload, 1) := by decide +kernel
theorem dX4_isAhead_57 : decode cX4_isAhead 57 = .ok (.aload_n 0, 1) := by decide +kernel
theorem dX4_isAhead_58 : decode cX4_isAhead 58 = .ok (.getfield 22, 3) := by decide +kernel
theorem dX4_isAhead_61 : decode cX4_isAhead 61 = .ok (.iload_n 2, 1) := by decide +kernel
theorem dX4_isAhead_62 : decode cX4_isAhead 62 = .ok (.iaload, 1) := by decide +kernel
theorem dX4_isAhead_63 : decode cX4_isAhead 63 = .ok (.if_icmp .ge 7, 3) := by decide +kernel
theorem dX4_isAhead_66 : decode cX4_isAhead 66 = .ok (.iconst 1, 1) := by decide +kernel
theorem dX4_isAhead_67 : decode cX4_isAhead 67 = .ok (.goto 17, 3) := by decide +kernel
theorem dX4_isAhead_70 : decode cX4_isAhead 70 = .ok (.iconst 0, 1) := by decide +kernel
theorem dX4_isAhead_71 : decode cX4_isAhead 71 = .ok (.goto 13, 3) := by decide +kernel
theorem dX4_isAhead_74 : decode cX4_isAhead 74 = .ok (.iload_n 1, 1) := by decide +kernel
theorem dX4_isAhead_75 : decode cX4_isAhead 75 = .ok (.iload_n 2, 1) := by decide +kernel
theorem dX4_isAhead_76 : decode cX4_isAhead 76 = .ok (.if_icmp .ge 7, 3) := by decide +kernel
theorem dX4_isAhead_79 : decode cX4_isAhead 79 = .ok (.iconst 1, 1) := by decide +kernel
theorem dX4_isAhead_80 : decode cX4_isAhead 80 = .ok (.goto 4, 3) := by decide +kernel
theorem dX4_isAhead_83 : decode cX4_isAhead 83 = .ok (.iconst 0, 1) := by decide +kernel
theorem dX4_isAhead_84 : decode cX4_isAhead 84 = .ok (.ireturn, 1) := by decide +kernel
set_option maxRecDepth 20000 in
theorem ggX4_sort_X4_isAhead : GoodIn wsX4_sort wsX4_isAhead := goodIn_r _ [8, 9, 10, 11, 12, 13, 14, 15, 16, 17, 18, 19, 20, 21, 22, 23] (by decide +kernel) (by decide +kernel)
set_option maxRecDepth 20000 in
theorem gX4_sort_X4_isAhead : GoodIn wsX4_sort (wsV RX4 69 RX4 yX4_isAhead wsX4_isAhead) := goodIn_app (goodIn_of _ (by decide +kernel)) ggX4_sort_X4_isAhead
theorem dX4_sort_0 : decode cX4_sort 0 = .ok (.iconst 0, 1) := by decide +kernel
theorem dX4_sort_1 : decode cX4_sort 1 = .ok (.istore_n 1, 1) := by decide +kernel
theorem dX4_sort_2 : decode cX4_sort 2 = .ok (.iconst 0, 1) := by decide +kernel
theorem dX4_sort_3 : decode cX4_sort 3 = .ok (.istore_n 2, 1) := by decide +kernel
theorem dX4_sort_4 : decode cX4_sort 4 = .ok (.iload_n 2, 1) := by decide +kernel
theorem dX4_sort_5 : decode cX4_sort 5 = .ok (.aload_n 0, 1) := by decide +kernel
theorem dX4_sort_6 : decode cX4_sort 6 = .ok (.getfield 56, 3) := by decide +kernel
theorem dX4_sort_9 : decode cX4_sort 9 = .ok (.if_icmp .ge 73, 3) := by decide +kernel
theorem dX4_sort_12 : decode cX4_sort 12 = .ok (.aload_n 0, 1) := by decide +kernel
theorem dX4_sort_13 : decode cX4_sort 13 = .ok (.getfield 37, 3) := by decide +kernel
theorem dX4_sort_16 : decode cX4_sort 16 = .ok (.iload_n 2, 1) := by decide +kernel
theorem dX4_sort_17 : decode cX4_sort 17 = .ok (.iaload, 1) := by decide +kernel
theorem dX4_sort_18 : decode cX4_sort 18 = .ok (.ifCond .eq 6, 3) := by decide +kernel
theorem dX4_sort_21 : decode cX4_sort 21 = .ok (.goto 55, 3) := by decide +kernel
theorem dX4_sort_24 : decode cX4_sort 24 = .ok (.iload_n 1, 1) := by decide +kernel
theorem dX4_sort_25 : decode cX4_sort 25 = .ok (.istore_n 3, 1) := by decide +kernel
theorem dX4_sort_26 : decode cX4_sort 26 = .ok (.iload_n 3, 1) := by decide +kernel
theorem dX4_sort_27 : decode cX4_sort 27 = .ok (.ifCond .le 39, 3) := by decide +kernel
theorem dX4_sort_30 : decode cX4_sort 30 = .ok (.aload_n 0, 1) := by decide +kernel
theorem dX4_sort_31 : decode cX4_sort 31 = .ok (.iload_n 2, 1) := by decide +kernel
theorem dX4_sort_32 : decode cX4_sort 32 = .ok (.aload_n 0, 1) := by decide +kernel
theorem dX4_sort_33 : decode cX4_sort 33 = .ok (.getfield 43, 3) := by decide +kernel
theorem dX4_sort_36 : decode cX4_sort 36 = .ok (.iload_n 3, 1) := by decide +kernel
theorem dX4_sort_37 : decode cX4_sort 37 = .ok (.iconst 1, 1) := by decide +kernel
theorem dX4_sort_38 : decode cX4_sort 38 = .ok (.isub, 1) := by decide +kernel
theorem dX4_sort_39 : decode cX4_sort 39 = .ok (.iaload, 1) := by decide +kernel
theorem dX4_sort_40 : decode cX4_sort 40 = .ok (.invokevirtual 69, 3) := by decide +kernel
theorem dX4_sort_43 : decode cX4_sort 43 = .ok (.ifCond .eq 23, 3) := by decide +kernel
theorem dX4_sort_46 : decode cX4_sort 46 = .ok (.aload_n 0, 1) := by decide +kernel
theorem dX4_sort_47 : decode cX4_sort 47 = .ok (.getfield 43, 3) := by decide +kernel
theorem dX4_sort_50 : decode cX4_sort 50 = .ok (.iload_n 3, 1) := by decide +kernel
theorem dX4_sort_51 : decode cX4_sort 51 = .ok (.aload_n 0, 1) := by decide +kernel
theorem dX4_sort_52 : decode cX4_sort 52 = .ok (.getfield 43, 3) := by decide +kernel
theorem dX4_sort_55 : decode cX4_sort 55 = .ok (.iload_n 3, 1) := by decide +kernel
theorem dX4_sort_56 : decode cX4_sort 56 = .ok (.iconst 1, 1) := by decide +kernel
theorem dX4_sort_57 : decode cX4_sort 57 = .ok (.isub, 1) := by decide +kernel
theorem dX4_sort_58 : decode cX4_sort 58 = .ok (.iaload, 1) := by decide +kernel
theorem dX4_sort_59 : decode cX4_sort 59 = .ok (.iastore, 1) := by decide +kernel
theorem dX4_sort_60 : decode cX4_sort 60 = .ok (.iinc 3 (-1), 3) := by decide +kernel
theorem dX4_sort_63 : decode cX4_sort 63 = .ok (.goto (-37), 3) := by decide +kernel
theorem dX4_sort_66 : decode cX4_sort 66 = .ok (.aload_n 0, 1) := by decide +kernel
theorem dX4_sort_67 : decode cX4_sort 67 = .ok (.getfield 43, 3) := by decide +kernel
theorem dX4_sort_70 : decode cX4_sort 70 = .ok (.iload_n 3, 1) := by decide +kernel
theorem dX4_sort_71 : decode cX4_sort 71 = .ok (.iload_n 2, 1) := by decide +kernel
theorem dX4_sort_72 : decode cX4_sort 72 = .ok (.iastore, 1) := by decide +kernel
theorem dX4_sort_73 : decode cX4_sort 73 = .ok (.iinc 1 1, 3) := by decide +kernel
theorem dX4_sort_76 : decode cX4_sort 76 = .ok (.iinc 2 1, 3) := by decide +kernel
theorem dX4_sort_79 : decode cX4_sort 79 = .ok (.goto (-75), 3) := by decide +kernel
theorem dX4_sort_82 : decode cX4_sort 82 = .ok (.iload_n 1, 1) := by decide +kernel
theorem dX4_sort_83 : decode cX4_sort 83 = .ok (.ireturn, 1) := by decide +kernel
theorem dX4_isCaught_0 : decode cX4_isCaught 0 = .ok (.iconst 0, 1) := by decide +kernel
theorem dX4_isCaught_1 : decode cX4_isCaught 1 = .ok (.istore_n 2, 1) := by decide +kernel
theorem dX4_isCaught_2 : decode cX4_isCaught 2 = .ok (.iload_n 2, 1) := by decide +kernel
theorem dX4_isCaught_3 : decode cX4_isCaught 3 = .ok (.aload_n 0, 1) := by decide +kernel
theorem dX4_isCaught_4 : decode cX4_isCaught 4 = .ok (.getfield 56, 3) := by decide +kernel
theorem dX4_isCaught_7 : decode cX4_isCaught 7 = .ok (.if_icmp .ge 67, 3) := by decide +kernel
theorem dX4_isCaught_10 : decode cX4_isCaught 10 = .ok (.aload_n 0, 1) := by decide +kernel
theorem dX4_isCaught_11 : decode cX4_isCaught 11 = .ok (.getfield 37, 3) := by decide +kernel
theorem dX4_isCaught_14 : decode cX4_isCaught 14 = .ok (.iload_n 2, 1) := by decide +kernel
theorem dX4_isCaught_15 : decode cX4_isCaught 15 = .ok (.iaload, 1) := by decide +kernel
theorem dX4_isCaught_16 : decode cX4_isCaught 16 = .ok (.ifCond .ne 52, 3) := by decide +kernel
theorem dX4_isCaught_19 : decode cX4_isCaught 19 = .ok (.aload_n 0, 1) := by decide +kernel
theorem dX4_isCaught_20 : decode cX4_isCaught 20 = .ok (.getfield 22, 3) := by decide +kernel
theorem dX4_isCaught_23 : decode cX4_isCaught 23 = .ok (.iload_n 2, 1) := by decide +kernel
theorem dX4_isCaught_24 : decode cX4_isCaught 24 = .ok (.iaload, 1) := by decide +kernel
theorem dX4_isCaught_25 : decode cX4_isCaught 25 = .ok (.aload_n 0, 1) := by decide +kernel
theorem dX4_isCaught_26 : decode cX4_isCaught 26 = .ok (.getfield 22, 3) := by decide +kernel
theorem dX4_isCaught_29 : decode cX4_isCaught 29 = .ok (.iload_n 1, 1) := by decide +kernel
theorem dX4_isCaught_30 : decode cX4_isCaught 30 = .ok (.iaload, 1) := by decide +kernel
theorem dX4_isCaught_31 : decode cX4_isCaught 31 = .ok (.if_icmp .ne 37, 3) := by decide +kernel
theorem dX4_isCaught_34 : decode cX4_isCaught 34 = .ok (.aload_n 0, 1) := by decide +kernel
theorem dX4_isCaught_35 : decode cX4_isCaught 35 = .ok (.getfield 25, 3) := by decide +kernel
theorem dX4_isCaught_38 : decode cX4_isCaught 38 = .ok (.iload_n 2, 1) := by decide +kernel
theorem dX4_isCaught_39 : decode cX4_isCaught 39 = .ok (.iaload, 1) := by decide +kernel
theorem dX4_isCaught_40 : decode cX4_isCaught 40 = .ok (.aload_n 0, 1) := by decide +kernel
theorem dX4_isCaught_41 : decode cX4_isCaught 41 = .ok (.getfield 25, 3) := by decide +kernel
theorem dX4_isCaught_44 : decode cX4_isCaught 44 = .ok (.iload_n 1, 1) := by decide +kernel
theorem dX4_isCaught_45 : decode cX4_isCaught 45 = .ok (.iaload, 1) := by decide +kernel
theorem dX4_isCaught_46 : decode cX4_isCaught 46 = .ok (.iconst 1, 1) := by decide +kernel
theorem dX4_isCaught_47 : decode cX4_isCaught 47 = .ok (.iadd, 1) := by decide +kernel
theorem dX4_isCaught_48 : decode cX4_isCaught 48 = .ok (.if_icmp .ne 20, 3) := by decide +kernel
theorem dX4_isCaught_51 : decode cX4_isCaught 51 = .ok (.aload_n 0, 1) := by decide +kernel
theorem dX4_isCaught_52 : decode cX4_isCaught 52 = .ok (.getfield 15, 3) := by decide +kernel
theorem dX4_isCaught_55 : decode cX4_isCaught 55 = .ok (.iload_n 2, 1) := by decide +kernel
theorem dX4_isCaught_56 : decode cX4_isCaught 56 = .ok (.iaload, 1) := by decide +kernel
theorem dX4_isCaught_57 : decode cX4_isCaught 57 = .ok (.aload_n 0, 1) := by decide +kernel
theorem dX4_isCaught_58 : decode cX4_isCaught 58 = .ok (.getfield 15, 3) := by decide +kernel
theorem dX4_isCaught_61 : decode cX4_isCaught 61 = .ok (.iload_n 1, 1) := by decide +kernel
theorem dX4_isCaught_62 : decode cX4_isCaught 62 = .ok (.iaload, 1) := by decide +kernel
theorem dX4_isCaught_63 : decode cX4_isCaught 63 = .ok (.if_icmp .eq 5, 3) := by decide +kernel
theorem dX4_isCaught_66 : decode cX4_isCaught 66 = .ok (.iconst 1, 1) := by decide +kernel
theorem dX4_isCaught_67 : decode cX4_isCaught 67 = .ok (.ireturn, 1) := by decide +kernel
theorem dX4_isCaught_68 : decode cX4_isCaught 68 = .ok (.iinc 2 1, 3) := by decide +kernel
theorem dX4_isCaught_71 : decode cX4_isCaught 71 = .ok (.goto (-69), 3) := by decide +kernel
theorem dX4_isCaught_74 : decode cX4_isCaught 74 = .ok (.iconst 0, 1) := by decide +kernel
theorem dX4_isCaught_75 : decode cX4_isCaught 75 = .ok (.ireturn, 1) := by decide +kernel
theorem dX4_end_0 : decode cX4_end 0 = .ok (.aload_n 0, 1) := by decide +kernel
theorem dX4_end_1 : decode cX4_end 1 = .ok (.getfield 37, 3) := by decide +kernel
theorem dX4_end_4 : decode cX4_end 4 = .ok (.iload_n 1, 1) := by decide +kernel
theorem dX4_end_5 : decode cX4_end 5 = .ok (.iload_n 2, 1) := by decide +kernel
theorem dX4_end_6 : decode cX4_end 6 = .ok (.iastore, 1) := by decide +kernel
theorem dX4_end_7 : decode cX4_end 7 = .ok (.aload_n 0, 1) := by decide +kernel
theorem dX4_end_8 : decode cX4_end 8 = .ok (.getfield 40, 3) := by decide +kernel
theorem dX4_end_11 : decode cX4_end 11 = .ok (.iload_n 1, 1) := by decide +kernel
theorem dX4_end_12 : decode cX4_end 12 = .ok (.aload_n 0, 1) := by decide +kernel
theorem dX4_end_13 : decode cX4_end 13 = .ok (.getfield 52, 3) := by decide +kernel
theorem dX4_end_16 : decode cX4_end 16 = .ok (.iastore, 1) := by decide +kernel
theorem dX4_end_17 : decode cX4_end 17 = .ok (.return_, 1) := by decide +kernel
set_option maxRecDepth 20000 in
theorem ggX4_drift_X4_isCaught : GoodIn wsX4_drift wsX4_isCaught := goodIn_r _ [10, 11, 3, 2, 4, 12, 36, 37, 38, 39, 40, 41, 42, 43, 44, 45, 46, 47, 48] (by decide +kernel) (by decide +kernel)
set_option maxRecDepth 20000 in
theorem gX4_drift_X4_isCaught : GoodIn wsX4_drift (wsV RX4 76 RX4 yX4_isCaught wsX4_isCaught) := goodIn_app (goodIn_of _ (by decide +kernel)) ggX4_drift_X4_isCaught
set_option maxRecDepth 20000 in
theorem ggX4_drift_X4_end : GoodIn wsX4_drift wsX4_end := goodIn_r _ [16, 3, 17, 18, 36, 37, 38, 39, 40, 41, 42, 43, 44, 45, 46, 47, 48] (by decide +kernel) (by decide +kernel)
set_option maxRecDepth 20000 in
theorem gX4_drift_X4_end : GoodIn wsX4_drift (wsV RX4 80 RX4 yX4_end wsX4_end) := goodIn_app (goodIn_of _ (by decide +kernel)) ggX4_drift_X4_end
set_option maxRecDepth 20000 in
theorem ggX4_drift_X4_pass : GoodIn wsX4_drift wsX4_pass := goodIn_r _ [22, 1, 4, 2, 23, 24, 25, 26, 27, 5, 28, 29, 30, 9, 31, 11, 3, 32, 33, 34, 35, 12, 13, 14, 15, 16, 17, 18, 36, 37, 38, 39, 40, 41, 42, 43, 44, 45, 46, 47, 48, 49, 50, 51, 52, 53, 54, 55, 56] (by decide +kernel) (by decide +kernel)
set_option maxRecDepth 20000 in
theorem gX4_drift_X4_pass : GoodIn wsX4_drift (wsV RX4 84 RX4 yX4_pass wsX4_pass) := goodIn_app (goodIn_of _ (by decide +kernel)) ggX4_drift_X4_pass
theorem dX4_drift_0 : decode cX4_drift 0 = .ok (.aload_n 0, 1) := by decide +kernel
theorem dX4_drift_1 : decode cX4_drift 1 = .ok (.getfield 3, 3) := by decide +kernel
theorem dX4_drift_4 : decode cX4_drift 4 = .ok (.getfield 73, 3) := by decide +kernel
theorem dX4_drift_7 : decode cX4_drift 7 = .ok (.aload_n 0, 1) := by decide +kernel
theorem dX4_drift_8 : decode cX4_drift 8 = .ok (.getfield 22, 3) := by decide +kernel
theorem dX4_drift_11 : decode cX4_drift 11 = .ok (.iload_n 1, 1) := by decide +kernel
theorem dX4_drift_12 : decode cX4_drift 12 = .ok (.iaload, 1) := by decide +kernel
theorem dX4_drift_13 : decode cX4_drift 13 = .ok (.iaload, 1) := by decide +kernel
theorem dX4_drift_14 : decode cX4_drift 14 = .ok (.istore_n 2, 1) := by decide +kernel
theorem dX4_drift_15 : decode cX4_drift 15 = .ok (.iload_n 2, 1) := by decide +kernel
theorem dX4_drift_16 : decode cX4_drift 16 = .ok (.ifCond .le 69, 3) := by decide +kernel
theorem dX4_drift_19 : decode cX4_drift 19 = .ok (.aload_n 0, 1) := by decide +kernel
theorem dX4_drift_20 : decode cX4_drift 20 = .ok (.getfield 37, 3) := by decide +kernel
theorem dX4_drift_23 : decode cX4_drift 23 = .ok (.iload_n 1, 1) := by decide +kernel
theorem dX4_drift_24 : decode cX4_drift 24 = .ok (.iaload, 1) := by decide +kernel
theorem dX4_drift_25 : decode cX4_drift 25 = .ok (.ifCond .ne 60, 3) := by decide +kernel
theorem dX4_drift_28 : decode cX4_drift 28 = .ok (.aload_n 0, 1) := by decide +kernel
theorem dX4_drift_29 : decode cX4_drift 29 = .ok (.iload_n 1, 1) := by decide +kernel
theorem dX4_drift_30 : decode cX4_drift 30 = .ok (.invokevirtual 76, 3) := by decide +kernel
theorem dX4_drift_33 : decode cX4_drift 33 = .ok (.ifCond .eq 4, 3) := by decide +kernel
theorem dX4_drift_36 : decode cX4_drift 36 = .ok (.return_, 1) := by decide +kernel
theorem dX4_drift_37 : decode cX4_drift 37 = .ok (.aload_n 0, 1) := by decide +kernel
theorem dX4_drift_38 : decode cX4_drift 38 = .ok (.getfield 25, 3) := by decide +kernel
theorem dX4_drift_41 : decode cX4_drift 41 = .ok (.iload_n 1, 1) := by decide +kernel
theorem dX4_drift_42 : decode cX4_drift 42 = .ok (.dup2, 1) := by decide +kernel
theorem dX4_drift_43 : decode cX4_drift 43 = .ok (.iaload, 1) := by decide +kernel
theorem dX4_drift_44 : decode cX4_drift 44 = .ok (.iconst 1, 1) := by decide +kernel
theorem dX4_drift_45 : decode cX4_drift 45 = .ok (.iadd, 1) := by decide +kernel
theorem dX4_drift_46 : decode cX4_drift 46 = .ok (.iastore, 1) := by decide +kernel
theorem dX4_drift_47 : decode cX4_drift 47 = .ok (.aload_n 0, 1) := by decide +kernel
theorem dX4_drift_48 : decode cX4_drift 48 = .ok (.getfield 25, 3) := by decide +kernel
theorem dX4_drift_51 : decode cX4_drift 51 = .ok (.iload_n 1, 1) := by decide +kernel
theorem dX4_drift_52 : decode cX4_drift 52 = .ok (.iaload, 1) := by decide +kernel
theorem dX4_drift_53 : decode cX4_drift 53 = .ok (.bipush 60, 2) := by decide +kernel
theorem dX4_drift_55 : decode cX4_drift 55 = .ok (.if_icmp .ne 19, 3) := by decide +kernel
theorem dX4_drift_58 : decode cX4_drift 58 = .ok (.aload_n 0, 1) := by decide +kernel
theorem dX4_drift_59 : decode cX4_drift 59 = .ok (.iload_n 1, 1) := by decide +kernel
theorem dX4_drift_60 : decode cX4_drift 60 = .ok (.iconst 2, 1) := by decide +kernel
theorem dX4_drift_61 : decode cX4_drift 61 = .ok (.invokevirtual 80, 3) := by decide +kernel
theorem dX4_drift_64 : decode cX4_drift 64 = .ok (.aload_n 0, 1) := by decide +kernel
theorem dX4_drift_65 : decode cX4_drift 65 = .ok (.getfield 34, 3) := by decide +kernel
theorem dX4_drift_68 : decode cX4_drift 68 = .ok (.iload_n 1, 1) := by decide +kernel
theorem dX4_drift_69 : decode cX4_drift 69 = .ok (.iconst 0, 1) := by decide +kernel
theorem dX4_drift_70 : decode cX4_drift 70 = .ok (.iastore, 1) := by decide +kernel
theorem dX4_drift_71 : decode cX4_drift 71 = .ok (.goto 8, 3) := by decide +kernel
theorem dX4_drift_74 : decode cX4_drift 74 = .ok (.aload_n 0, 1) := by decide +kernel
theorem dX4_drift_75 : decode cX4_drift 75 = .ok (.iload_n 1, 1) := by decide +kernel
theorem dX4_drift_76 : decode cX4_drift 76 = .ok (.invokevirtual 84, 3) := by decide +kernel
theorem dX4_drift_79 : decode cX4_drift 79 = .ok (.iinc 2 (-1), 3) := by decide +kernel
theorem dX4_drift_82 : decode cX4_drift 82 = .ok (.goto (-67), 3) := by decide +kernel
theorem dX4_drift_85 : decode cX4_drift 85 = .ok (.return_, 1) := by decide +kernel
set_option maxRecDepth 20000 in
theorem ggX4_pass_X4_at : GoodIn wsX4_pass wsX4_at := goodIn_r _ [14, 15, 16, 3, 2, 28, 29, 30, 31, 32, 33, 34, 35, 36, 37, 38, 39, 40] (by decide +kernel) (by decide +kernel)
set_option maxRecDepth 20000 in
theorem gX4_pass_X4_at : GoodIn wsX4_pass (wsV RX4 91 RX4 yX4_at wsX4_at) := goodIn_app (goodIn_of _ (by decide +kernel)) ggX4_pass_X4_at
set_option maxRecDepth 20000 in
theorem ggX4_pass_X4_isSoaked : GoodIn wsX4_pass wsX4_isSoaked := goodIn_r _ [20, 4, 21, 28, 29, 30, 31, 32, 33, 34, 35, 36, 37, 38, 39, 40] (by decide +kernel) (by decide +kernel)
set_option maxRecDepth 20000 in
theorem gX4_pass_X4_isSoaked : GoodIn wsX4_pass (wsV RX4 101 RX4 yX4_isSoaked wsX4_isSoaked) := goodIn_app (goodIn_of _ (by decide +kernel)) ggX4_pass_X4_isSoaked
set_option maxRecDepth 20000 in
theorem ggX4_pass_X4_end : GoodIn wsX4_pass wsX4_end := goodIn_r _ [25, 16, 26, 27, 28, 29, 30, 31, 32, 33, 34, 35, 36, 37, 38, 39, 40] (by decide +kernel) (by decide +kernel)
set_option maxRecDepth 20000 in
theorem gX4_pass_X4_end : GoodIn wsX4_pass (wsV RX4 80 RX4 yX4_end wsX4_end) := goodIn_app (goodIn_of _ (by decide +kernel)) ggX4_pass_X4_end
theorem dX4_pass_0 : decode cX4_pass 0 = .ok (.aload_n 0, 1) := by decide +kernel
theorem dX4_pass_1 : decode cX4_pass 1 = .ok (.getfield 3, 3) := by decide +kernel
theorem dX4_pass_4 : decode cX4_pass 4 = .ok (.getfield 88, 3) := by decide +kernel
theorem dX4_pass_7 : decode cX4_pass 7 = .ok (.aload_n 0, 1) := by decide +kernel
theorem dX4_pass_8 : decode cX4_pass 8 = .ok (.getfield 25, 3) := by decide +kernel
theorem dX4_pass_11 : decode cX4_pass 11 = .ok (.iload_n 1, 1) := by decide +kernel
theorem dX4_pass_12 : decode cX4_pass 12 = .ok (.iaload, 1) := by decide +kernel
theorem dX4_pass_13 : decode cX4_pass 13 = .ok (.iaload, 1) := by decide +kernel
theorem dX4_pass_14 : decode cX4_pass 14 = .ok (.ifCond .le 84, 3) := by decide +kernel
theorem dX4_pass_17 : decode cX4_pass 17 = .ok (.iconst 0, 1) := by decide +kernel
theorem dX4_pass_18 : decode cX4_pass 18 = .ok (.istore_n 2, 1) := by decide +kernel
theorem dX4_pass_19 : decode cX4_pass 19 = .ok (.iconst 1, 1) := by decide +kernel
theorem dX4_pass_20 : decode cX4_pass 20 = .ok (.istore_n 3, 1) := by decide +kernel
theorem dX4_pass_21 : decode cX4_pass 21 = .ok (.iload_n 3, 1) := by decide +kernel
theorem dX4_pass_22 : decode cX4_pass 22 = .ok (.iconst 3, 1) := by decide +kernel
theorem dX4_pass_23 : decode cX4_pass 23 = .ok (.if_icmp .gt 31, 3) := by decide +kernel
theorem dX4_pass_26 : decode cX4_pass 26 = .ok (.iload_n 2, 1) := by decide +kernel
theorem dX4_pass_27 : decode cX4_pass 27 = .ok (.aload_n 0, 1) := by decide +kernel
theorem dX4_pass_28 : decode cX4_pass 28 = .ok (.aload_n 0, 1) := by decide +kernel
theorem dX4_pass_29 : decode cX4_pass 29 = .ok (.getfield 22, 3) := by decide +kernel
theorem dX4_pass_32 : decode cX4_pass 32 = .ok (.iload_n 1, 1) := by decide +kernel
theorem dX4_pass_33 : decode cX4_pass 33 = .ok (.iaload, 1) := by decide +kernel
theorem dX4_pass_34 : decode cX4_pass 34 = .ok (.aload_n 0, 1) := by decide +kernel
theorem dX4_pass_35 : decode cX4_pass 35 = .ok (.getfield 25, 3) := by decide +kernel
theorem dX4_pass_38 : decode cX4_pass 38 = .ok (.iload_n 1, 1) := by decide +kernel
theorem dX4_pass_39 : decode cX4_pass 39 = .ok (.iaload, 1) := by decide +kernel
theorem dX4_pass_40 : decode cX4_pass 40 = .ok (.iload_n 3, 1) := by decide +kernel
theorem dX4_pass_41 : decode cX4_pass 41 = .ok (.iadd, 1) := by decide +kernel
theorem dX4_pass_42 : decode cX4_pass 42 = .ok (.iconst 0, 1) := by decide +kernel
theorem dX4_pass_43 : decode cX4_pass 43 = .ok (.invokevirtual 91, 3) := by decide +kernel
theorem dX4_pass_46 : decode cX4_pass 46 = .ok (.iadd, 1) := by decide +kernel
theorem dX4_pass_47 : decode cX4_pass 47 = .ok (.istore_n 2, 1) := by decide +kernel
theorem dX4_pass_48 : decode cX4_pass 48 = .ok (.iinc 3 1, 3) := by decide +kernel
theorem dX4_pass_51 : decode cX4_pass 51 = .ok (.goto (-30), 3) := by decide +kernel
theorem dX4_pass_54 : decode cX4_pass 54 = .ok (.aload_n 0, 1) := by decide +kernel
theorem dX4_pass_55 : decode cX4_pass 55 = .ok (.getfield 31, 3) := by decide +kernel
theorem dX4_pass_58 : decode cX4_pass 58 = .ok (.iload_n 1, 1) := by decide +kernel
theorem dX4_pass_59 : decode cX4_pass 59 = .ok (.dup2, 1) := by decide +kernel
theorem dX4_pass_60 : decode cX4_pass 60 = .ok (.iaload, 1) := by decide +kernel
theorem dX4_pass_61 : decode cX4_pass 61 = .ok (.iconst 1, 1) := by decide +kernel
theorem dX4_pass_62 : decode cX4_pass 62 = .ok (.aload_n 0, 1) := by decide +kernel
theorem dX4_pass_63 : decode cX4_pass 63 = .ok (.getfield 3, 3) := by decide +kernel
theorem dX4_pass_66 : decode cX4_pass 66 = .ok (.getfield 88, 3) := by decide +kernel
theorem dX4_pass_69 : decode cX4_pass 69 = .ok (.aload_n 0, 1) := by decide +kernel
theorem dX4_pass_70 : decode cX4_pass 70 = .ok (.getfield 25, 3) := by decide +kernel
theorem dX4_pass_73 : decode cX4_pass 73 = .ok (.iload_n 1, 1) := by decide +kernel
theorem dX4_pass_74 : decode cX4_pass 74 = .ok (.iaload, 1) := by decide +kernel
theorem dX4_pass_75 : decode cX4_pass 75 = .ok (.iaload, 1) := by decide +kernel
theorem dX4_pass_76 : decode cX4_pass 76 = .ok (.iload_n 2, 1) := by decide +kernel
theorem dX4_pass_77 : decode cX4_pass 77 = .ok (.isub, 1) := by decide +kernel
theorem dX4_pass_78 : decode cX4_pass 78 = .ok (.invokestatic 95, 3) := by decide +kernel
theorem dX4_pass_81 : decode cX4_pass 81 = .ok (.iadd, 1) := by decide +kernel
theorem dX4_pass_82 : decode cX4_pass 82 = .ok (.iastore, 1) := by decide +kernel
theorem dX4_pass_83 : decode cX4_pass 83 = .ok (.aload_n 0, 1) := by decide +kernel
theorem dX4_pass_84 : decode cX4_pass 84 = .ok (.iload_n 1, 1) := by decide +kernel
theorem dX4_pass_85 : decode cX4_pass 85 = .ok (.invokevirtual 101, 3) := by decide +kernel
theorem dX4_pass_88 : decode cX4_pass 88 = .ok (.ifCond .eq 10, 3) := by decide +kernel
theorem dX4_pass_91 : decode cX4_pass 91 = .ok (.aload_n 0, 1) := by decide +kernel
theorem dX4_pass_92 : decode cX4_pass 92 = .ok (.getfield 34, 3) := by decide +kernel
theorem dX4_pass_95 : decode cX4_pass 95 = .ok (.iload_n 1, 1) := by decide +kernel
theorem dX4_pass_96 : decode cX4_pass 96 = .ok (.iconst 0, 1) := by decide +kernel
theorem dX4_pass_97 : decode cX4_pass 97 = .ok (.iastore, 1) := by decide +kernel
theorem dX4_pass_98 : decode cX4_pass 98 = .ok (.aload_n 0, 1) := by decide +kernel
theorem dX4_pass_99 : decode cX4_pass 99 = .ok (.getfield 3, 3) := by decide +kernel
theorem dX4_pass_102 : decode cX4_pass 102 = .ok (.getfield 104, 3) := by decide +kernel
theorem dX4_pass_105 : decode cX4_pass 105 = .ok (.bipush 60, 2) := by decide +kernel
theorem dX4_pass_107 : decode cX4_pass 107 = .ok (.aload_n 0, 1) := by decide +kernel
theorem dX4_pass_108 : decode cX4_pass 108 = .ok (.getfield 22, 3) := by decide +kernel
theorem dX4_pass_111 : decode cX4_pass 111 = .ok (.iload_n 1, 1) := by decide +kernel
theorem dX4_pass_112 : decode cX4_pass 112 = .ok (.iaload, 1) := by decide +kernel
theorem dX4_pass_113 : decode cX4_pass 113 = .ok (.imul, 1) := by decide +kernel
theorem dX4_pass_114 : decode cX4_pass 114 = .ok (.aload_n 0, 1) := by decide +kernel
theorem dX4_pass_115 : decode cX4_pass 115 = .ok (.getfield 25, 3) := by decide +kernel
theorem dX4_pass_118 : decode cX4_pass 118 = .ok (.iload_n 1, 1) := by decide +kernel
theorem dX4_pass_119 : decode cX4_pass 119 = .ok (.iaload, 1) := by decide +kernel
theorem dX4_pass_120 : decode cX4_pass 120 = .ok (.iadd, 1) := by decide +kernel
theorem dX4_pass_121 : decode cX4_pass 121 = .ok (.iaload, 1) := by decide +kernel
theorem dX4_pass_122 : decode cX4_pass 122 = .ok (.iconst 1, 1) := by decide +kernel
theorem dX4_pass_123 : decode cX4_pass 123 = .ok (.if_icmp .ne 9, 3) := by decide +kernel
theorem dX4_pass_126 : decode cX4_pass 126 = .ok (.aload_n 0, 1) := by decide +kernel
theorem dX4_pass_127 : decode cX4_pass 127 = .ok (.iload_n 1, 1) := by decide +kernel
theorem dX4_pass_128 : decode cX4_pass 128 = .ok (.iconst 1, 1) := by decide +kernel
theorem dX4_pass_129 : decode cX4_pass 129 = .ok (.invokevirtual 80, 3) := by decide +kernel
theorem dX4_pass_132 : decode cX4_pass 132 = .ok (.return_, 1) := by decide +kernel
set_option maxRecDepth 20000 in
theorem ggX4_pass__X4_sort : GoodIn wsX4_pass_ wsX4_sort := goodIn_r _ [11, 2, 3, 1, 12, 13, 14, 10, 15, 16, 17, 50, 51, 52, 53, 54, 55, 56, 57, 58, 59, 60, 61, 62] (by decide +kernel) (by decide +kernel)
set_option maxRecDepth 20000 in
theorem gX4_pass__X4_sort : GoodIn wsX4_pass_ (wsV RX4 107 RX4 yX4_sort wsX4_sort) := goodIn_app (goodIn_of _ (by decide +kernel)) ggX4_pass__X4_sort
set_option maxRecDepth 20000 in
theorem ggX4_pass__X4_drift : GoodIn wsX4_pass_ wsX4_drift := goodIn_r _ [21, 22, 17, 3, 16, 4, 23, 24, 25, 10, 26, 2, 27, 28, 29, 30, 31, 32, 6, 33, 34, 35, 36, 37, 38, 39, 40, 41, 42, 43, 44, 45, 46, 47, 48, 49, 50, 51, 52, 53, 54, 55, 56, 57, 58, 59, 60, 61, 62, 63, 64, 65, 66, 67, 68, 69, 70] (by decide +kernel) (by decide +kernel)
set_option maxRecDepth 20000 in
theorem gX4_pass__X4_drift : GoodIn wsX4_pass_ (wsV RX4 111 RX4 yX4_drift wsX4_drift) := goodIn_app (goodIn_of _ (by decide +kernel)) ggX4_pass__X4_drift
theorem dX4_pass__0 : decode cX4_pass_ 0 = .ok (.aload_n 0, 1) := by decide +kernel
theorem dX4_pass__1 : decode cX4_pass_ 1 = .ok (.invokevirtual 107, 3) := by decide +kernel
theorem dX4_pass__4 : decode cX4_pass_ 4 = .ok (.istore_n 1, 1) := by decide +kernel
theorem dX4_pass__5 : decode cX4_pass_ 5 = .ok (.iconst 0, 1) := by decide +kernel
theorem dX4_pass__6 : decode cX4_pass_ 6 = .ok (.istore_n 2, 1) := by decide +kernel
theorem dX4_pass__7 : decode cX4_pass_ 7 = .ok (.iload_n 2, 1) := by decide +kernel
theorem dX4_pass__8 : decode cX4_pass_ 8 = .ok (.iload_n 1, 1) := by decide +kernel
theorem dX4_pass__9 : decode cX4_pass_ 9 = .ok (.if_icmp .ge 19, 3) := by decide +kernel
theorem dX4_pass__12 : decode cX4_pass_ 12 = .ok (.aload_n 0, 1) := by decide +kernel
theorem dX4_pass__13 : decode cX4_pass_ 13 = .ok (.aload_n 0, 1) := by decide +kernel
theorem dX4_pass__14 : decode cX4_pass_ 14 = .ok (.getfield 43, 3) := by decide +kernel
theorem dX4_pass__17 : decode cX4_pass_ 17 = .ok (.iload_n 2, 1) := by decide +kernel
theorem dX4_pass__18 : decode cX4_pass_ 18 = .ok (.iaload, 1) := by decide +kernel
theorem dX4_pass__19 : decode cX4_pass_ 19 = .ok (.invokevirtual 111, 3) := by decide +kernel
theorem dX4_pass__22 : decode cX4_pass_ 22 = .ok (.iinc 2 1, 3) := by decide +kernel
theorem dX4_pass__25 : decode cX4_pass_ 25 = .ok (.goto (-18), 3) := by decide +kernel
theorem dX4_pass__28 : decode cX4_pass_ 28 = .ok (.iconst 0, 1) := by decide +kernel
theorem dX4_pass__29 : decode cX4_pass_ 29 = .ok (.istore_n 2, 1) := by decide +kernel
theorem dX4_pass__30 : decode cX4_pass_ 30 = .ok (.iload_n 2, 1) := by decide +kernel
theorem dX4_pass__31 : decode cX4_pass_ 31 = .ok (.aload_n 0, 1) := by decide +kernel
theorem dX4_pass__32 : decode cX4_pass_ 32 = .ok (.getfield 56, 3) := by decide +kernel
theorem dX4_pass__35 : decode cX4_pass_ 35 = .ok (.if_icmp .ge 56, 3) := by decide +kernel
theorem dX4_pass__38 : decode cX4_pass_ 38 = .ok (.aload_n 0, 1) := by decide +kernel
theorem dX4_pass__39 : decode cX4_pass_ 39 = .ok (.getfield 37, 3) := by decide +kernel
theorem dX4_pass__42 : decode cX4_pass_ 42 = .ok (.iload_n 2, 1) := by decide +kernel
theorem dX4_pass__43 : decode cX4_pass_ 43 = .ok (.iaload, 1) := by decide +kernel
theorem dX4_pass__44 : decode cX4_pass_ 44 = .ok (.ifCond .ne 41, 3) := by decide +kernel
theorem dX4_pass__47 : decode cX4_pass_ 47 = .ok (.aload_n 0, 1) := by decide +kernel
theorem dX4_pass__48 : decode cX4_pass_ 48 = .ok (.getfield 34, 3) := by decide +kernel
theorem dX4_pass__51 : decode cX4_pass_ 51 = .ok (.iload_n 2, 1) := by decide +kernel
theorem dX4_pass__52 : decode cX4_pass_ 52 = .ok (.iaload, 1) := by decide +kernel
theorem dX4_pass__53 : decode cX4_pass_ 53 = .ok (.ifCond .ne 6, 3) := by decide +kernel
theorem dX4_pass__56 : decode cX4_pass_ 56 = .ok (.goto 29, 3) := by decide +kernel
theorem dX4_pass__59 : decode cX4_pass_ 59 = .ok (.aload_n 0, 1) := by decide +kernel
theorem dX4_pass__60 : decode cX4_pass_ 60 = .ok (.getfield 28, 3) := by decide +kernel
theorem dX4_pass__63 : decode cX4_pass_ 63 = .ok (.iload_n 2, 1) := by decide +kernel
theorem dX4_pass__64 : decode cX4_pass_ 64 = .ok (.dup2, 1) := by decide +kernel
theorem dX4_pass__65 : decode cX4_pass_ 65 = .ok (.iaload, 1) := by decide +kernel
theorem dX4_pass__66 : decode cX4_pass_ 66 = .ok (.iconst 1, 1) := by decide +kernel
theorem dX4_pass__67 : decode cX4_pass_ 67 = .ok (.isub, 1) := by decide +kernel
theorem dX4_pass__68 : decode cX4_pass_ 68 = .ok (.iastore, 1) := by decide +kernel
theorem dX4_pass__69 : decode cX4_pass_ 69 = .ok (.aload_n 0, 1) := by decide +kernel
theorem dX4_pass__70 : decode cX4_pass_ 70 = .ok (.getfield 28, 3) := by decide +kernel
theorem dX4_pass__73 : decode cX4_pass_ 73 = .ok (.iload_n 2, 1) := by decide +kernel
theorem dX4_pass__74 : decode cX4_pass_ 74 = .ok (.iaload, 1) := by decide +kernel
theorem dX4_pass__75 : decode cX4_pass_ 75 = .ok (.ifCond .ne 10, 3) := by decide +kernel
theorem dX4_pass__78 : decode cX4_pass_ 78 = .ok (.aload_n 0, 1) := by decide +kernel
theorem dX4_pass__79 : decode cX4_pass_ 79 = .ok (.getfield 34, 3) := by decide +kernel
theorem dX4_pass__82 : decode cX4_pass_ 82 = .ok (.iload_n 2, 1) := by decide +kernel
theorem dX4_pass__83 : decode cX4_pass_ 83 = .ok (.iconst 0, 1) := by decide +kernel
theorem dX4_pass__84 : decode cX4_pass_ 84 = .ok (.iastore, 1) := by decide +kernel
theorem dX4_pass__85 : decode cX4_pass_ 85 = .ok (.iinc 2 1, 3) := by decide +kernel
theorem dX4_pass__88 : decode cX4_pass_ 88 = .ok (.goto (-58), 3) := by decide +kernel
theorem dX4_pass__91 : decode cX4_pass_ 91 = .ok (.aload_n 0, 1) := by decide +kernel
theorem dX4_pass__92 : decode cX4_pass_ 92 = .ok (.dup, 1) := by decide +kernel
theorem dX4_pass__93 : decode cX4_pass_ 93 = .ok (.getfield 52, 3) := by decide +kernel
theorem dX4_pass__96 : decode cX4_pass_ 96 = .ok (.iconst 1, 1) := by decide +kernel
theorem dX4_pass__97 : decode cX4_pass_ 97 = .ok (.iadd, 1) := by decide +kernel
theorem dX4_pass__98 : decode cX4_pass_ 98 = .ok (.putfield 52, 3) := by decide +kernel
theorem dX4_pass__101 : decode cX4_pass_ 101 = .ok (.return_, 1) := by decide +kernel
theorem dX4_counted_0 : decode cX4_counted 0 = .ok (.bipush 10, 2) := by decide +kernel
theorem dX4_counted_2 : decode cX4_counted 2 = .ok (.newarray .int, 2) := by decide +kernel
theorem dX4_counted_4 : decode cX4_counted 4 = .ok (.dup, 1) := by decide +kernel
theorem dX4_counted_5 : decode cX4_counted 5 = .ok (.iconst 0, 1) := by decide +kernel
theorem dX4_counted_6 : decode cX4_counted 6 = .ok (.aload_n 0, 1) := by decide +kernel
theorem dX4_counted_7 : decode cX4_counted 7 = .ok (.getfield 52, 3) := by decide +kernel
theorem dX4_counted_10 : decode cX4_counted 10 = .ok (.iastore, 1) := by decide +kernel
theorem dX4_counted_11 : decode cX4_counted 11 = .ok (.dup, 1) := by decide +kernel
theorem dX4_counted_12 : decode cX4_counted 12 = .ok (.iconst 1, 1) := by decide +kernel
theorem dX4_counted_13 : decode cX4_counted 13 = .ok (.aload_n 0, 1) := by decide +kernel
theorem dX4_counted_14 : decode cX4_counted 14 = .ok (.getfield 56, 3) := by decide +kernel
theorem dX4_counted_17 : decode cX4_counted 17 = .ok (.iastore, 1) := by decide +kernel
theorem dX4_counted_18 : decode cX4_counted 18 = .ok (.dup, 1) := by decide +kernel
theorem dX4_counted_19 : decode cX4_counted 19 = .ok (.iconst 2, 1) := by decide +kernel
theorem dX4_counted_20 : decode cX4_counted 20 = .ok (.iconst 0, 1) := by decide +kernel
theorem dX4_counted_21 : decode cX4_counted 21 = .ok (.iastore, 1) := by decide +kernel
theorem dX4_counted_22 : decode cX4_counted 22 = .ok (.dup, 1) := by decide +kernel
theorem dX4_counted_23 : decode cX4_counted 23 = .ok (.iconst 3, 1) := by decide +kernel
theorem dX4_counted_24 : decode cX4_counted 24 = .ok (.iconst 0, 1) := by decide +kernel
theorem dX4_counted_25 : decode cX4_counted 25 = .ok (.iastore, 1) := by decide +kernel
theorem dX4_counted_26 : decode cX4_counted 26 = .ok (.dup, 1) := by decide +kernel
theorem dX4_counted_27 : decode cX4_counted 27 = .ok (.iconst 4, 1) := by decide +kernel
theorem dX4_counted_28 : decode cX4_counted 28 = .ok (.iconst 0, 1) := by decide +kernel
theorem dX4_counted_29 : decode cX4_counted 29 = .ok (.iastore, 1) := by decide +kernel
theorem dX4_counted_30 : decode cX4_counted 30 = .ok (.dup, 1) := by decide +kernel
theorem dX4_counted_31 : decode cX4_counted 31 = .ok (.iconst 5, 1) := by decide +kernel
theorem dX4_counted_32 : decode cX4_counted 32 = .ok (.iconst 0, 1) := by decide +kernel
theorem dX4_counted_33 : decode cX4_counted 33 = .ok (.iastore, 1) := by decide +kernel
theorem dX4_counted_34 : decode cX4_counted 34 = .ok (.dup, 1) := by decide +kernel
theorem dX4_counted_35 : decode cX4_counted 35 = .ok (.bipush 6, 2) := by decide +kernel
theorem dX4_counted_37 : decode cX4_counted 37 = .ok (.iconst 0, 1) := by decide +kernel
theorem dX4_counted_38 : decode cX4_counted 38 = .ok (.iastore, 1) := by decide +kernel
theorem dX4_counted_39 : decode cX4_counted 39 = .ok (.dup, 1) := by decide +kernel
theorem dX4_counted_40 : decode cX4_counted 40 = .ok (.bipush 7, 2) := by decide +kernel
theorem dX4_counted_42 : decode cX4_counted 42 = .ok (.aload_n 0, 1) := by decide +kernel
theorem dX4_counted_43 : decode cX4_counted 43 = .ok (.getfield 3, 3) := by decide +kernel
theorem dX4_counted_46 : decode cX4_counted 46 = .ok (.getfield 114, 3) := by decide +kernel
theorem dX4_counted_49 : decode cX4_counted 49 = .ok (.iastore, 1) := by decide +kernel
theorem dX4_counted_50 : decode cX4_counted 50 = .ok (.dup, 1) := by decide +kernel
theorem dX4_counted_51 : decode cX4_counted 51 = .ok (.bipush 8, 2) := by decide +kernel
theorem dX4_counted_53 : decode cX4_counted 53 = .ok (.aload_n 0, 1) := by decide +kernel
theorem dX4_counted_54 : decode cX4_counted 54 = .ok (.getfield 3, 3) := by decide +kernel
theorem dX4_counted_57 : decode cX4_counted 57 = .ok (.getfield 117, 3) := by decide +kernel
theorem dX4_counted_60 : decode cX4_counted 60 = .ok (.iastore, 1) := by decide +kernel
theorem dX4_counted_61 : decode cX4_counted 61 = .ok (.dup, 1) := by decide +kernel
theorem dX4_counted_62 : decode cX4_counted 62 = .ok (.bipush 9, 2) := by decide +kernel
theorem dX4_counted_64 : decode cX4_counted 64 = .ok (.iconst 0, 1) := by decide +kernel
theorem dX4_counted_65 : decode cX4_counted 65 = .ok (.iastore, 1) := by decide +kernel
theorem dX4_counted_66 : decode cX4_counted 66 = .ok (.astore_n 2, 1) := by decide +kernel
theorem dX4_counted_67 : decode cX4_counted 67 = .ok (.iconst 0, 1) := by decide +kernel
theorem dX4_counted_68 : decode cX4_counted 68 = .ok (.istore_n 3, 1) := by decide +kernel
theorem dX4_counted_69 : decode cX4_counted 69 = .ok (.iload_n 3, 1) := by decide +kernel
theorem dX4_counted_70 : decode cX4_counted 70 = .ok (.aload_n 0, 1) := by decide +kernel
theorem dX4_counted_71 : decode cX4_counted 71 = .ok (.getfield 56, 3) := by decide +kernel
theorem dX4_counted_74 : decode cX4_counted 74 = .ok (.if_icmp .ge 76, 3) := by decide +kernel
theorem dX4_counted_77 : decode cX4_counted 77 = .ok (.aload_n 2, 1) := by decide +kernel
theorem dX4_counted_78 : decode cX4_counted 78 = .ok (.iconst 2, 1) := by decide +kernel
theorem dX4_counted_79 : decode cX4_counted 79 = .ok (.aload_n 0, 1) := by decide +kernel
theorem dX4_counted_80 : decode cX4_counted 80 = .ok (.getfield 37, 3) := by decide +kernel
theorem dX4_counted_83 : decode cX4_counted 83 = .ok (.iload_n 3, 1) := by decide +kernel
theorem dX4_counted_84 : decode cX4_counted 84 = .ok (.iaload, 1) := by decide +kernel
theorem dX4_counted_85 : decode cX4_counted 85 = .ok (.iadd, 1) := by decide +kernel
theorem dX4_counted_86 : decode cX4_counted 86 = .ok (.dup2, 1) := by decide +kernel
theorem dX4_counted_87 : decode cX4_counted 87 = .ok (.iaload, 1) := by decide +kernel
theorem dX4_counted_88 : decode cX4_counted 88 = .ok (.iconst 1, 1) := by decide +kernel
theorem dX4_counted_89 : decode cX4_counted 89 = .ok (.iadd, 1) := by decide +kernel
theorem dX4_counted_90 : decode cX4_counted 90 = .ok (.iastore, 1) := by decide +kernel
theorem dX4_counted_91 : decode cX4_counted 91 = .ok (.aload_n 0, 1) := by decide +kernel
theorem dX4_counted_92 : decode cX4_counted 92 = .ok (.getfield 34, 3) := by decide +kernel
theorem dX4_counted_95 : decode cX4_counted 95 = .ok (.iload_n 3, 1) := by decide +kernel
theorem dX4_counted_96 : decode cX4_counted 96 = .ok (.iaload, 1) := by decide +kernel
theorem dX4_counted_97 : decode cX4_counted 97 = .ok (.ifCond .ne 6, 3) := by decide +kernel
theorem dX4_counted_100 : decode cX4_counted 100 = .ok (.goto 44, 3) := by decide +kernel
theorem dX4_counted_103 : decode cX4_counted 103 = .ok (.aload_n 2, 1) := by decide +kernel
theorem dX4_counted_104 : decode cX4_counted 104 = .ok (.iconst 5, 1) := by decide +kernel
theorem dX4_counted_105 : decode cX4_counted 105 = .ok (.aload_n 0, 1) := by decide +kernel
theorem dX4_counted_106 : decode cX4_counted 106 = .ok (.getfield 37, 3) := by decide +kernel
theorem dX4_counted_109 : decode cX4_counted 109 = .ok (.iload_n 3, 1) := by decide +kernel
theorem dX4_counted_110 : decode cX4_counted 110 = .ok (.iaload, 1) := by decide +kernel
theorem dX4_counted_111 : decode cX4_counted 111 = .ok (.iadd, 1) := by decide +kernel
theorem dX4_counted_112 : decode cX4_counted 112 = .ok (.dup2, 1) := by decide +kernel
theorem dX4_counted_113 : decode cX4_counted 113 = .ok (.iaload, 1) := by decide +kernel
theorem dX4_counted_114 : decode cX4_counted 114 = .ok (.iconst 1, 1) := by decide +kernel
theorem dX4_counted_115 : decode cX4_counted 115 = .ok (.iadd, 1) := by decide +kernel
theorem dX4_counted_116 : decode cX4_counted 116 = .ok (.iastore, 1) := by decide +kernel
theorem dX4_counted_117 : decode cX4_counted 117 = .ok (.aload_n 2, 1) := by decide +kernel
theorem dX4_counted_118 : decode cX4_counted 118 = .ok (.bipush 9, 2) := by decide +kernel
theorem dX4_counted_120 : decode cX4_counted 120 = .ok (.dup2, 1) := by decide +kernel
theorem dX4_counted_121 : decode cX4_counted 121 = .ok (.iaload, 1) := by decide +kernel
theorem dX4_counted_122 : decode cX4_counted 122 = .ok (.aload_n 0, 1) := by decide +kernel
theorem dX4_counted_123 : decode cX4_counted 123 = .ok (.getfield 37, 3) := by decide +kernel
theorem dX4_counted_126 : decode cX4_counted 126 = .ok (.iload_n 3, 1) := by decide +kernel
theorem dX4_counted_127 : decode cX4_counted 127 = .ok (.iaload, 1) := by decide +kernel
theorem dX4_counted_128 : decode cX4_counted 128 = .ok (.iconst 1, 1) := by decide +kernel
theorem dX4_counted_129 : decode cX4_counted 129 = .ok (.if_icmp .ne 12, 3) := by decide +kernel
theorem dX4_counted_132 : decode cX4_counted 132 = .ok (.aload_n 0, 1) := by decide +kernel
theorem dX4_counted_133 : decode cX4_counted 133 = .ok (.getfield 19, 3) := by decide +kernel
theorem dX4_counted_136 : decode cX4_counted 136 = .ok (.iload_n 3, 1) := by decide +kernel
theorem dX4_counted_137 : decode cX4_counted 137 = .ok (.iaload, 1) := by decide +kernel
theorem dX4_counted_138 : decode cX4_counted 138 = .ok (.goto 4, 3) := by decide +kernel
theorem dX4_counted_141 : decode cX4_counted 141 = .ok (.iconst 0, 1) := by decide +kernel
theorem dX4_counted_142 : decode cX4_counted 142 = .ok (.iadd, 1) := by decide +kernel
theorem dX4_counted_143 : decode cX4_counted 143 = .ok (.iastore, 1) := by decide +kernel
theorem dX4_counted_144 : decode cX4_counted 144 = .ok (.iinc 3 1, 3) := by decide +kernel
theorem dX4_counted_147 : decode cX4_counted 147 = .ok (.goto (-78), 3) := by decide +kernel
theorem dX4_counted_150 : decode cX4_counted 150 = .ok (.aload_n 2, 1) := by decide +kernel
theorem dX4_counted_151 : decode cX4_counted 151 = .ok (.iload_n 1, 1) := by decide +kernel
theorem dX4_counted_152 : decode cX4_counted 152 = .ok (.iaload, 1) := by decide +kernel
theorem dX4_counted_153 : decode cX4_counted 153 = .ok (.ireturn, 1) := by decide +kernel
set_option maxRecDepth 20000 in
theorem ggX5_init_X4_init : GoodIn wsX5_init wsX4_init := goodIn_r _ [14, 15, 16, 2, 3, 4, 17, 18, 19, 20, 21, 22, 23, 24, 25, 26, 35, 36, 37, 38, 39, 40, 41, 42, 43, 44, 45, 46, 47] (by decide +kernel) (by decide +kernel)
set_option maxRecDepth 20000 in
theorem gX5_init_X4_init_n21 : GoodIn wsX5_init (wsX4_init) := ggX5_init_X4_init
theorem dX5_init_0 : decode cX5_init 0 = .ok (.aload_n 0, 1) := by decide +kernel
theorem dX5_init_1 : decode cX5_init 1 = .ok (.invokespecial 1, 3) := by decide +kernel
theorem dX5_init_4 : decode cX5_init 4 = .ok (.aload_n 0, 1) := by decide +kernel
theorem dX5_init_5 : decode cX5_init 5 = .ok (.iconst 3, 1) := by decide +kernel
theorem dX5_init_6 : decode cX5_init 6 = .ok (.newarray .int, 2) := by decide +kernel
theorem dX5_init_8 : decode cX5_init 8 = .ok (.dup, 1) := by decide +kernel
theorem dX5_init_9 : decode cX5_init 9 = .ok (.iconst 0, 1) := by decide +kernel
theorem dX5_init_10 : decode cX5_init 10 = .ok (.iconst 2, 1) := by decide +kernel
theorem dX5_init_11 : decode cX5_init 11 = .ok (.iastore, 1) := by decide +kernel
theorem dX5_init_12 : decode cX5_init 12 = .ok (.dup, 1) := by decide +kernel
theorem dX5_init_13 : decode cX5_init 13 = .ok (.iconst 1, 1) := by decide +kernel
theorem dX5_init_14 : decode cX5_init 14 = .ok (.iconst 3, 1) := by decide +kernel
theorem dX5_init_15 : decode cX5_init 15 = .ok (.iastore, 1) := by decide +kernel
theorem dX5_init_16 : decode cX5_init 16 = .ok (.dup, 1) := by decide +kernel
theorem dX5_init_17 : decode cX5_init 17 = .ok (.iconst 2, 1) := by decide +kernel
theorem dX5_init_18 : decode cX5_init 18 = .ok (.iconst 2, 1) := by decide +kernel
theorem dX5_init_19 : decode cX5_init 19 = .ok (.iastore, 1) := by decide +kernel
theorem dX5_init_20 : decode cX5_init 20 = .ok (.putfield 7, 3) := by decide +kernel
theorem dX5_init_23 : decode cX5_init 23 = .ok (.aload_n 0, 1) := by decide +kernel
theorem dX5_init_24 : decode cX5_init 24 = .ok (.bipush 60, 2) := by decide +kernel
theorem dX5_init_26 : decode cX5_init 26 = .ok (.newarray .int, 2) := by decide +kernel
theorem dX5_init_28 : decode cX5_init 28 = .ok (.putfield 13, 3) := by decide +kernel
theorem dX5_init_31 : decode cX5_init 31 = .ok (.aload_n 0, 1) := by decide +kernel
theorem dX5_init_32 : decode cX5_init 32 = .ok (.sipush 180, 3) := by decide +kernel
theorem dX5_init_35 : decode cX5_init 35 = .ok (.newarray .int, 2) := by decide +kernel
theorem dX5_init_37 : decode cX5_init 37 = .ok (.putfield 16, 3) := by decide +kernel
theorem dX5_init_40 : decode cX5_init 40 = .ok (.aload_n 0, 1) := by decide +kernel
theorem dX5_init_41 : decode cX5_init 41 = .ok (.new 19, 3) := by decide +kernel
theorem dX5_init_44 : decode cX5_init 44 = .ok (.dup, 1) := by decide +kernel
theorem dX5_init_45 : decode cX5_init 45 = .ok (.aload_n 0, 1) := by decide +kernel
theorem dX5_init_46 : decode cX5_init 46 = .ok (.invokespecial 21, 3) := by decide +kernel
theorem dX5_init_49 : decode cX5_init 49 = .ok (.putfield 24, 3) := by decide +kernel
theorem dX5_init_52 : decode cX5_init 52 = .ok (.aload_n 0, 1) := by decide +kernel
theorem dX5_init_53 : decode cX5_init 53 = .ok (.new 19, 3) := by decide +kernel
theorem dX5_init_56 : decode cX5_init 56 = .ok (.dup, 1) := by decide +kernel
theorem dX5_init_57 : decode cX5_init 57 = .ok (.aload_n 0, 1) := by decide +kernel
theorem dX5_init_58 : decode cX5_init 58 = .ok (.invokespecial 21, 3) := by decide +kernel
theorem dX5_init_61 : decode cX5_init 61 = .ok (.putfield 28, 3) := by decide +kernel
theorem dX5_init_64 : decode cX5_init 64 = .ok (.return_, 1) := by decide +kernel
theorem dX5_thrown_0 : decode cX5_thrown 0 = .ok (.aload_n 0, 1) := by decide +kernel
theorem dX5_thrown_1 : decode cX5_thrown 1 = .ok (.getfield 31, 3) := by decide +kernel
theorem dX5_thrown_4 : decode cX5_thrown 4 = .ok (.ireturn, 1) := by decide +kernel
theorem dX5_no_0 : decode cX5_no 0 = .ok (.aload_n 0, 1) := by decide +kernel
theorem dX5_no_1 : decode cX5_no 1 = .ok (.iload_n 1, 1) := by decide +kernel
theorem dX5_no_2 : decode cX5_no 2 = .ok (.putfield 31, 3) := by decide +kernel
theorem dX5_no_5 : decode cX5_no 5 = .ok (.iconst 0, 1) := by decide +kernel
theorem dX5_no_6 : decode cX5_no 6 = .ok (.ireturn, 1) := by decide +kernel
theorem dX5_isIn_0 : decode cX5_isIn 0 = .ok (.iload_n 0, 1) := by decide +kernel
theorem dX5_isIn_1 : decode cX5_isIn 1 = .ok (.iload_n 1, 1) := by decide +kernel
theorem dX5_isIn_2 : decode cX5_isIn 2 = .ok (.if_icmp .lt 12, 3) := by decide +kernel
theorem dX5_isIn_5 : decode cX5_isIn 5 = .ok (.iload_n 0, 1) := by decide +kernel
theorem dX5_isIn_6 : decode cX5_isIn 6 = .ok (.iload_n 2, 1) := by decide +kernel
theorem dX5_isIn_7 : decode cX5_isIn 7 = .ok (.if_icmp .gt 7, 3) := by decide +kernel
theorem dX5_isIn_10 : decode cX5_isIn 10 = .ok (.iconst 1, 1) := by decide +kernel
theorem dX5_isIn_11 : decode cX5_isIn 11 = .ok (.goto 4, 3) := by decide +kernel
theorem dX5_isIn_14 : decode cX5_isIn 14 = .ok (.iconst 0, 1) := by decide +kernel
theorem dX5_isIn_15 : decode cX5_isIn 15 = .ok (.ireturn, 1) := by decide +kernel
set_option maxRecDepth 20000 in
theorem ggX5_isLane_X5_isIn : GoodIn wsX5_isLane wsX5_isIn := goodIn_r _ [4] (by decide +kernel) (by decide +kernel)
set_option maxRecDepth 20000 in
theorem gX5_isLane_X5_isIn : GoodIn wsX5_isLane (va_wsS RX5 35 yX5_isIn wsX5_isIn) := goodIn_app (goodIn_of _ (by decide +kernel)) ggX5_isLane_X5_isIn
theorem dX5_isLane_0 : decode cX5_isLane 0 = .ok (.iload_n 0, 1) := by decide +kernel
theorem dX5_isLane_1 : decode cX5_isLane 1 = .ok (.iconst 0, 1) := by decide +kernel
theorem dX5_isLane_2 : decode cX5_isLane 2 = .ok (.iconst 2, 1) := by decide +kernel
theorem dX5_isLane_3 : decode cX5_isLane 3 = .ok (.invokestatic 35, 3) := by decide +kernel
theorem dX5_isLane_6 : decode cX5_isLane 6 = .ok (.ireturn, 1) := by decide +kernel
set_option maxRecDepth 20000 in
theorem ggX5_isPlace_X5_isIn : GoodIn wsX5_isPlace wsX5_isIn := goodIn_r _ [4] (by decide +kernel) (by decide +kernel)
set_option maxRecDepth 20000 in
theorem gX5_isPlace_X5_isIn : GoodIn wsX5_isPlace (va_wsS RX5 35 yX5_isIn wsX5_isIn) := goodIn_app (goodIn_of _ (by decide +kernel)) ggX5_isPlace_X5_isIn
theorem dX5_isPlace_0 : decode cX5_isPlace 0 = .ok (.iload_n 0, 1) := by decide +kernel
theorem dX5_isPlace_1 : decode cX5_isPlace 1 = .ok (.iconst 0, 1) := by decide +kernel
theorem dX5_isPlace_2 : decode cX5_isPlace 2 = .ok (.bipush 59, 2) := by decide +kernel
theorem dX5_isPlace_4 : decode cX5_isPlace 4 = .ok (.invokestatic 35, 3) := by decide +kernel
theorem dX5_isPlace_7 : decode cX5_isPlace 7 = .ok (.ireturn, 1) := by decide +kernel
set_option maxRecDepth 20000 in
theorem ggX5_isLantern_X5_isIn : GoodIn wsX5_isLantern wsX5_isIn := goodIn_r _ [5] (by decide +kernel) (by decide +kernel)
set_option maxRecDepth 20000 in
theorem gX5_isLantern_X5_isIn : GoodIn wsX5_isLantern (va_wsS RX5 35 yX5_isIn wsX5_isIn) := goodIn_app (goodIn_of _ (by decide +kernel)) ggX5_isLantern_X5_isIn
theorem dX5_isLantern_0 : decode cX5_isLantern 0 = .ok (.iload_n 1, 1) := by decide +kernel
theorem dX5_isLantern_1 : decode cX5_isLantern 1 = .ok (.iconst 0, 1) := by decide +kernel
theorem dX5_isLantern_2 : decode cX5_isLantern 2 = .ok (.aload_n 0, 1) := by decide +kernel
theorem dX5_isLantern_3 : decode cX5_isLantern 3 = .ok (.getfield 24, 3) := by decide +kernel
theorem dX5_isLantern_6 : decode cX5_isLantern 6 = .ok (.getfield 39, 3) := by decide +kernel
theorem dX5_isLantern_9 : decode cX5_isLantern 9 = .ok (.iconst 1, 1) := by decide +kernel
theorem dX5_isLantern_10 : decode cX5_isLantern 10 = .ok (.isub, 1) := by decide +kernel
theorem dX5_isLantern_11 : decode cX5_isLantern 11 = .ok (.invokestatic 35, 3) := by decide +kernel
theorem dX5_isLantern_14 : decode cX5_isLantern 14 = .ok (.ireturn, 1) := by decide +kernel
set_option maxRecDepth 20000 in
theorem ggX5_setCurrent_X5_isLane : GoodIn wsX5_setCurrent wsX5_isLane := goodIn_r _ [6, 7, 8, 5, 9] (by decide +kernel) (by decide +kernel)
set_option maxRecDepth 20000 in
theorem gX5_setCurrent_X5_isLane : GoodIn wsX5_setCurrent (va_wsS RX5 42 yX5_isLane wsX5_isLane) := goodIn_app (goodIn_of _ (by decide +kernel)) ggX5_setCurrent_X5_isLane
set_option maxRecDepth 20000 in
theorem ggX5_setCurrent_X5_no : GoodIn wsX5_setCurrent wsX5_no := goodIn_r _ [13, 1, 14, 15, 16, 17, 18, 19, 20, 21] (by decide +kernel) (by decide +kernel)
set_option maxRecDepth 20000 in
theorem gX5_setCurrent_X5_no : GoodIn wsX5_setCurrent (wsV RX5 46 RX5 yX5_no wsX5_no) := goodIn_app (goodIn_of _ (by decide +kernel)) ggX5_setCurrent_X5_no
set_option maxRecDepth 20000 in
theorem ggX5_setCurrent_X5_isIn : GoodIn wsX5_setCurrent wsX5_isIn := goodIn_r _ [9] (by decide +kernel) (by decide +kernel)
set_option maxRecDepth 20000 in
theorem gX5_setCurrent_X5_isIn : GoodIn wsX5_setCurrent (va_wsS RX5 35 yX5_isIn wsX5_isIn) := goodIn_app (goodIn_of _ (by decide +kernel)) ggX5_setCurrent_X5_isIn
theorem dX5_setCurrent_0 : decode cX5_setCurrent 0 = .ok (.aload_n 0, 1) := by decide +kernel
theorem dX5_setCurrent_1 : decode cX5_setCurrent 1 = .ok (.iconst 0, 1) := by decide +kernel
theorem dX5_setCurrent_2 : decode cX5_setCurrent 2 = .ok (.putfield 31, 3) := by decide +kernel
theorem dX5_setCurrent_5 : decode cX5_setCurrent 5 = .ok (.iload_n 1, 1) := by decide +kernel
theorem dX5_setCurrent_6 : decode cX5_setCurrent 6 = .ok (.invokestatic 42, 3) := by decide +kernel
theorem dX5_setCurrent_9 : decode cX5_setCurrent 9 = .ok (.ifCond .ne 9, 3) := by decide +kernel
theorem dX5_setCurrent_12 : decode cX5_setCurrent 12 = .ok (.aload_n 0, 1) := by decide +kernel
theorem dX5_setCurrent_13 : decode cX5_setCurrent 13 = .ok (.iconst 1, 1) := by decide +kernel
theorem dX5_setCurrent_14 : decode cX5_setCurrent 14 = .ok (.invokevirtual 46, 3) := by decide +kernel
theorem dX5_setCurrent_17 : decode cX5_setCurrent 17 = .ok (.ireturn, 1) := by decide +kernel
theorem dX5_setCurrent_18 : decode cX5_setCurrent 18 = .ok (.iload_n 2, 1) := by decide +kernel
theorem dX5_setCurrent_19 : decode cX5_setCurrent 19 = .ok (.iconst 1, 1) := by decide +kernel
theorem dX5_setCurrent_20 : decode cX5_setCurrent 20 = .ok (.iconst 5, 1) := by decide +kernel
theorem dX5_setCurrent_21 : decode cX5_setCurrent 21 = .ok (.invokestatic 35, 3) := by decide +kernel
theorem dX5_setCurrent_24 : decode cX5_setCurrent 24 = .ok (.ifCond .ne 9, 3) := by decide +kernel
theorem dX5_setCurrent_27 : decode cX5_setCurrent 27 = .ok (.aload_n 0, 1) := by decide +kernel
theorem dX5_setCurrent_28 : decode cX5_setCurrent 28 = .ok (.iconst 2, 1) := by decide +kernel
theorem dX5_setCurrent_29 : decode cX5_setCurrent 29 = .ok (.invokevirtual 46, 3) := by decide +kernel
theorem dX5_setCurrent_32 : decode cX5_setCurrent 32 = .ok (.ireturn, 1) := by decide +kernel
theorem dX5_setCurrent_33 : decode cX5_setCurrent 33 = .ok (.aload_n 0, 1) := by decide +kernel
theorem dX5_setCurrent_34 : decode cX5_setCurrent 34 = .ok (.getfield 7, 3) := by decide +kernel
theorem dX5_setCurrent_37 : decode cX5_setCurrent 37 = .ok (.iload_n 1, 1) := by decide +kernel
theorem dX5_setCurrent_38 : decode cX5_setCurrent 38 = .ok (.iaload, 1) := by decide +kernel
theorem dX5_setCurrent_39 : decode cX5_setCurrent 39 = .ok (.istore_n 3, 1) := by decide +kernel
theorem dX5_setCurrent_40 : decode cX5_setCurrent 40 = .ok (.aload_n 0, 1) := by decide +kernel
theorem dX5_setCurrent_41 : decode cX5_setCurrent 41 = .ok (.getfield 7, 3) := by decide +kernel
theorem dX5_setCurrent_44 : decode cX5_setCurrent 44 = .ok (.iload_n 1, 1) := by decide +kernel
theorem dX5_setCurrent_45 : decode cX5_setCurrent 45 = .ok (.iload_n 2, 1) := by decide +kernel
theorem dX5_setCurrent_46 : decode cX5_setCurrent 46 = .ok (.iastore, 1) := by decide +kernel
theorem dX5_setCurrent_47 : decode cX5_setCurrent 47 = .ok (.iload_n 3, 1) := by decide +kernel
theorem dX5_setCurrent_48 : decode cX5_setCurrent 48 = .ok (.ireturn, 1) := by decide +kernel
set_option maxRecDepth 20000 in
theorem ggX5_weir_X5_isPlace : GoodIn wsX5_weir wsX5_isPlace := goodIn_r _ [7, 8, 9, 6, 10] (by decide +kernel) (by decide +kernel)
set_option maxRecDepth 20000 in
theorem gX5_weir_X5_isPlace : GoodIn wsX5_weir (va_wsS RX5 50 yX5_isPlace wsX5_isPlace) := goodIn_app (goodIn_of _ (by decide +kernel)) ggX5_weir_X5_isPlace
set_option maxRecDepth 20000 in
theorem ggX5_weir_X5_no : GoodIn wsX5_weir wsX5_no := goodIn_r _ [14, 1, 15, 16, 17, 18, 19, 20, 21, 22] (by decide +kernel) (by decide +kernel)
set_option maxRecDepth 20000 in
theorem gX5_weir_X5_no : GoodIn wsX5_weir (wsV RX5 46 RX5 yX5_no wsX5_no) := goodIn_app (goodIn_of _ (by decide +kernel)) ggX5_weir_X5_no
set_option maxRecDepth 20000 in
theorem ggX5_weir_X5_isIn : GoodIn wsX5_weir wsX5_isIn := goodIn_r _ [10] (by decide +kernel) (by decide +kernel)
set_option maxRecDepth 20000 in
theorem gX5_weir_X5_isIn : GoodIn wsX5_weir (va_wsS RX5 35 yX5_isIn wsX5_isIn) := goodIn_app (goodIn_of _ (by decide +kernel)) ggX5_weir_X5_isIn
theorem dX5_weir_0 : decode cX5_weir 0 = .ok (.aload_n 0, 1) := by decide +kernel
theorem dX5_weir_1 : decode cX5_weir 1 = .ok (.iconst 0, 1) := by decide +kernel
theorem dX5_weir_2 : decode cX5_weir 2 = .ok (.putfield 31, 3) := by decide +kernel
theorem dX5_weir_5 : decode cX5_weir 5 = .ok (.iload_n 1, 1) := by decide +kernel
theorem dX5_weir_6 : decode cX5_weir 6 = .ok (.invokestatic 50, 3) := by decide +kernel
theorem dX5_weir_9 : decode cX5_weir 9 = .ok (.ifCond .eq 7, 3) := by decide +kernel
theorem dX5_weir_12 : decode cX5_weir 12 = .ok (.iload_n 1, 1) := by decide +kernel
theorem dX5_weir_13 : decode cX5_weir 13 = .ok (.ifCond .ne 9, 3) := by decide +kernel
theorem dX5_weir_16 : decode cX5_weir 16 = .ok (.aload_n 0, 1) := by decide +kernel
theorem dX5_weir_17 : decode cX5_weir 17 = .ok (.iconst 1, 1) := by decide +kernel
theorem dX5_weir_18 : decode cX5_weir 18 = .ok (.invokevirtual 46, 3) := by decide +kernel
theorem dX5_weir_21 : decode cX5_weir 21 = .ok (.ireturn, 1) := by decide +kernel
theorem dX5_weir_22 : decode cX5_weir 22 = .ok (.iload_n 2, 1) := by decide +kernel
theorem dX5_weir_23 : decode cX5_weir 23 = .ok (.iconst 1, 1) := by decide +kernel
theorem dX5_weir_24 : decode cX5_weir 24 = .ok (.bipush 9, 2) := by decide +kernel
theorem dX5_weir_26 : decode cX5_weir 26 = .ok (.invokestatic 35, 3) := by decide +kernel
theorem dX5_weir_29 : decode cX5_weir 29 = .ok (.ifCond .ne 9, 3) := by decide +kernel
theorem dX5_weir_32 : decode cX5_weir 32 = .ok (.aload_n 0, 1) := by decide +kernel
theorem dX5_weir_33 : decode cX5_weir 33 = .ok (.iconst 2, 1) := by decide +kernel
theorem dX5_weir_34 : decode cX5_weir 34 = .ok (.invokevirtual 46, 3) := by decide +kernel
theorem dX5_weir_37 : decode cX5_weir 37 = .ok (.ireturn, 1) := by decide +kernel
theorem dX5_weir_38 : decode cX5_weir 38 = .ok (.aload_n 0, 1) := by decide +kernel
theorem dX5_weir_39 : decode cX5_weir 39 = .ok (.getfield 53, 3) := by decide +kernel
theorem dX5_weir_42 : decode cX5_weir 42 = .ok (.bipush 6, 2) := by decide +kernel
theorem dX5_weir_44 : decode cX5_weir 44 = .ok (.if_icmp .eq 12, 3) := by decide +kernel
theorem dX5_weir_47 : decode cX5_weir 47 = .ok (.aload_n 0, 1) := by decide +kernel
theorem dX5_weir_48 : decode cX5_weir 48 = .ok (.getfield 13, 3) := by decide +kernel
theorem dX5_weir_51 : decode cX5_weir 51 = .ok (.iload_n 1, 1) := by decide +kernel
theorem dX5_weir_52 : decode cX5_weir 52 = .ok (.iaload, 1) := by decide +kernel
theorem dX5_weir_53 : decode cX5_weir 53 = .ok (.ifCond .le 9, 3) := by decide +kernel
theorem dX5_weir_56 : decode cX5_weir 56 = .ok (.aload_n 0, 1) := by decide +kernel
theorem dX5_weir_57 : decode cX5_weir 57 = .ok (.iconst 3, 1) := by decide +kernel
theorem dX5_weir_58 : decode cX5_weir 58 = .ok (.invokevirtual 46, 3) := by decide +kernel
theorem dX5_weir_61 : decode cX5_weir 61 = .ok (.ireturn, 1) := by decide +kernel
theorem dX5_weir_62 : decode cX5_weir 62 = .ok (.aload_n 0, 1) := by decide +kernel
theorem dX5_weir_63 : decode cX5_weir 63 = .ok (.getfield 13, 3) := by decide +kernel
theorem dX5_weir_66 : decode cX5_weir 66 = .ok (.iload_n 1, 1) := by decide +kernel
theorem dX5_weir_67 : decode cX5_weir 67 = .ok (.iload_n 2, 1) := by decide +kernel
theorem dX5_weir_68 : decode cX5_weir 68 = .ok (.iastore, 1) := by decide +kernel
theorem dX5_weir_69 : decode cX5_weir 69 = .ok (.aload_n 0, 1) := by decide +kernel
theorem dX5_weir_70 : decode cX5_weir 70 = .ok (.dup, 1) := by decide +kernel
theorem dX5_weir_71 : decode cX5_weir 71 = .ok (.getfield 53, 3) := by decide +kernel
theorem dX5_weir_74 : decode cX5_weir 74 = .ok (.iconst 1, 1) := by decide +kernel
theorem dX5_weir_75 : decode cX5_weir 75 = .ok (.iadd, 1) := by decide +kernel
theorem dX5_weir_76 : decode cX5_weir 76 = .ok (.putfield 53, 3) := by decide +kernel
theorem dX5_weir_79 : decode cX5_weir 79 = .ok (.aload_n 0, 1) := by decide +kernel
theorem dX5_weir_80 : decode cX5_weir 80 = .ok (.getfield 53, 3) := by decide +kernel
theorem dX5_weir_83 : decode cX5_weir 83 = .ok (.ireturn, 1) := by decide +kernel
set_option maxRecDepth 20000 in
theorem ggX5_net_X5_isLane : GoodIn wsX5_net wsX5_isLane := goodIn_r _ [7, 8, 9, 6, 10] (by decide +kernel) (by decide +kernel)
set_option maxRecDepth 20000 in
theorem gX5_net_X5_isLane : GoodIn wsX5_net (va_wsS RX5 42 yX5_isLane wsX5_isLane) := goodIn_app (goodIn_of _ (by decide +kernel)) ggX5_net_X5_isLane
set_option maxRecDepth 20000 in
theorem ggX5_net_X5_isPlace : GoodIn wsX5_net wsX5_isPlace := goodIn_r _ [13, 8, 9, 6, 10] (by decide +kernel) (by decide +kernel)
set_option maxRecDepth 20000 in
theorem gX5_net_X5_isPlace : GoodIn wsX5_net (va_wsS RX5 50 yX5_isPlace wsX5_isPlace) := goodIn_app (goodIn_of _ (by decide +kernel)) ggX5_net_X5_isPlace
set_option maxRecDepth 20000 in
theorem ggX5_net_X5_no : GoodIn wsX5_net wsX5_no := goodIn_r _ [17, 1, 18, 19, 20, 21, 22, 23, 24, 25] (by decide +kernel) (by decide +kernel)
set_option maxRecDepth 20000 in
theorem gX5_net_X5_no : GoodIn wsX5_net (wsV RX5 46 RX5 yX5_no wsX5_no) := goodIn_app (goodIn_of _ (by decide +kernel)) ggX5_net_X5_no
theorem dX5_net_0 : decode cX5_net 0 = .ok (.aload_n 0, 1) := by decide +kernel
theorem dX5_net_1 : decode cX5_net 1 = .ok (.iconst 0, 1) := by decide +kernel
theorem dX5_net_2 : decode cX5_net 2 = .ok (.putfield 31, 3) := by decide +kernel
theorem dX5_net_5 : decode cX5_net 5 = .ok (.iload_n 1, 1) := by decide +kernel
theorem dX5_net_6 : decode cX5_net 6 = .ok (.invokestatic 42, 3) := by decide +kernel
theorem dX5_net_9 : decode cX5_net 9 = .ok (.ifCond .eq 14, 3) := by decide +kernel
theorem dX5_net_12 : decode cX5_net 12 = .ok (.iload_n 2, 1) := by decide +kernel
theorem dX5_net_13 : decode cX5_net 13 = .ok (.invokestatic 50, 3) := by decide +kernel
theorem dX5_net_16 : decode cX5_net 16 = .ok (.ifCond .eq 7, 3) := by decide +kernel
theorem dX5_net_19 : decode cX5_net 19 = .ok (.iload_n 2, 1) := by decide +kernel
theorem dX5_net_20 : decode cX5_net 20 = .ok (.ifCond .ne 9, 3) := by decide +kernel
theorem dX5_net_23 : decode cX5_net 23 = .ok (.aload_n 0, 1) := by decide +kernel
theorem dX5_net_24 : decode cX5_net 24 = .ok (.iconst 1, 1) := by decide +kernel
theorem dX5_net_25 : decode cX5_net 25 = .ok (.invokevirtual 46, 3) := by decide +kernel
theorem dX5_net_28 : decode cX5_net 28 = .ok (.ireturn, 1) := by decide +kernel
theorem dX5_net_29 : decode cX5_net 29 = .ok (.aload_n 0, 1) := by decide +kernel
theorem dX5_net_30 : decode cX5_net 30 = .ok (.getfield 56, 3) := by decide +kernel
theorem dX5_net_33 : decode cX5_net 33 = .ok (.iconst 4, 1) := by decide +kernel
theorem dX5_net_34 : decode cX5_net 34 = .ok (.if_icmp .eq 18, 3) := by decide +kernel
theorem dX5_net_37 : decode cX5_net 37 = .ok (.aload_n 0, 1) := by decide +kernel
theorem dX5_net_38 : decode cX5_net 38 = .ok (.getfield 16, 3) := by decide +kernel
theorem dX5_net_41 : decode cX5_net 41 = .ok (.bipush 60, 2) := by decide +kernel
theorem dX5_net_43 : decode cX5_net 43 = .ok (.iload_n 1, 1) := by decide +kernel
theorem dX5_net_44 : decode cX5_net 44 = .ok (.imul, 1) := by decide +kernel
theorem dX5_net_45 : decode cX5_net 45 = .ok (.iload_n 2, 1) := by decide +kernel
theorem dX5_net_46 : decode cX5_net 46 = .ok (.iadd, 1) := by decide +kernel
theorem dX5_net_47 : decode cX5_net 47 = .ok (.iaload, 1) := by decide +kernel
theorem dX5_net_48 : decode cX5_net 48 = .ok (.iconst 1, 1) := by decide +kernel
theorem dX5_net_49 : decode cX5_net 49 = .ok (.if_icmp .ne 9, 3) := by decide +kernel
theorem dX5_net_52 : decode cX5_net 52 = .ok (.aload_n 0, 1) := by decide +kernel
theorem dX5_net_53 : decode cX5_net 53 = .ok (.iconst 2, 1) := by decide +kernel
theorem dX5_net_54 : decode cX5_net 54 = .ok (.invokevirtual 46, 3) := by decide +kernel
theorem dX5_net_57 : decode cX5_net 57 = .ok (.ireturn, 1) := by decide +kernel
theorem dX5_net_58 : decode cX5_net 58 = .ok (.aload_n 0, 1) := by decide +kernel
theorem dX5_net_59 : decode cX5_net 59 = .ok (.getfield 16, 3) := by decide +kernel
theorem dX5_net_62 : decode cX5_net 62 = .ok (.bipush 60, 2) := by decide +kernel
theorem dX5_net_64 : decode cX5_net 64 = .ok (.iload_n 1, 1) := by decide +kernel
theorem dX5_net_65 : decode cX5_net 65 = .ok (.imul, 1) := by decide +kernel
theorem dX5_net_66 : decode cX5_net 66 = .ok (.iload_n 2, 1) := by decide +kernel
theorem dX5_net_67 : decode cX5_net 67 = .ok (.iadd, 1) := by decide +kernel
theorem dX5_net_68 : decode cX5_net 68 = .ok (.iconst 1, 1) := by decide +kernel
theorem dX5_net_69 : decode cX5_net 69 = .ok (.iastore, 1) := by decide +kernel
theorem dX5_net_70 : decode cX5_net 70 = .ok (.aload_n 0, 1) := by decide +kernel
theorem dX5_net_71 : decode cX5_net 71 = .ok (.dup, 1) := by decide +kernel
theorem dX5_net_72 : decode cX5_net 72 = .ok (.getfield 56, 3) := by decide +kernel
theorem dX5_net_75 : decode cX5_net 75 = .ok (.iconst 1, 1) := by decide +kernel
theorem dX5_net_76 : decode cX5_net 76 = .ok (.iadd, 1) := by decide +kernel
theorem dX5_net_77 : decode cX5_net 77 = .ok (.putfield 56, 3) := by decide +kernel
theorem dX5_net_80 : decode cX5_net 80 = .ok (.aload_n 0, 1) := by decide +kernel
theorem dX5_net_81 : decode cX5_net 81 = .ok (.getfield 56, 3) := by decide +kernel
theorem dX5_net_84 : decode cX5_net 84 = .ok (.ireturn, 1) := by decide +kernel
set_option maxRecDepth 20000 in
theorem ggX5_riverTold_X4_at : GoodIn wsX5_riverTold wsX4_at := goodIn_r _ [8, 9, 10, 11, 12, 21, 22, 23, 24, 25, 26, 27, 28, 29, 30, 31, 32, 33] (by decide +kernel) (by decide +kernel)
set_option maxRecDepth 20000 in
theorem gX5_riverTold_X4_at : GoodIn wsX5_riverTold (wsV RX5 59 RX4 yX4_at wsX4_at) := goodIn_app (goodIn_of _ (by decide +kernel)) ggX5_riverTold_X4_at
theorem dX5_riverTold_0 : decode cX5_riverTold 0 = .ok (.iload_n 3, 1) := by decide +kernel
theorem dX5_riverTold_1 : decode cX5_riverTold 1 = .ok (.tableswitch 57 0 2 #[27, 38, 45], 27) := by decide +kernel
theorem dX5_riverTold_28 : decode cX5_riverTold 28 = .ok (.aload_n 0, 1) := by decide +kernel
theorem dX5_riverTold_29 : decode cX5_riverTold 29 = .ok (.getfield 24, 3) := by decide +kernel
theorem dX5_riverTold_32 : decode cX5_riverTold 32 = .ok (.iload_n 1, 1) := by decide +kernel
theorem dX5_riverTold_33 : decode cX5_riverTold 33 = .ok (.iload_n 2, 1) := by decide +kernel
theorem dX5_riverTold_34 : decode cX5_riverTold 34 = .ok (.iconst 0, 1) := by decide +kernel
theorem dX5_riverTold_35 : decode cX5_riverTold 35 = .ok (.invokevirtual 59, 3) := by decide +kernel
theorem dX5_riverTold_38 : decode cX5_riverTold 38 = .ok (.ireturn, 1) := by decide +kernel
theorem dX5_riverTold_39 : decode cX5_riverTold 39 = .ok (.aload_n 0, 1) := by decide +kernel
theorem dX5_riverTold_40 : decode cX5_riverTold 40 = .ok (.getfield 13, 3) := by decide +kernel
theorem dX5_riverTold_43 : decode cX5_riverTold 43 = .ok (.iload_n 2, 1) := by decide +kernel
theorem dX5_riverTold_44 : decode cX5_riverTold 44 = .ok (.iaload, 1) := by decide +kernel
theorem dX5_riverTold_45 : decode cX5_riverTold 45 = .ok (.ireturn, 1) := by decide +kernel
theorem dX5_riverTold_46 : decode cX5_riverTold 46 = .ok (.aload_n 0, 1) := by decide +kernel
theorem dX5_riverTold_47 : decode cX5_riverTold 47 = .ok (.getfield 16, 3) := by decide +kernel
theorem dX5_riverTold_50 : decode cX5_riverTold 50 = .ok (.bipush 60, 2) := by decide +kernel
theorem dX5_riverTold_52 : decode cX5_riverTold 52 = .ok (.iload_n 1, 1) := by decide +kernel
theorem dX5_riverTold_53 : decode cX5_riverTold 53 = .ok (.imul, 1) := by decide +kernel
theorem dX5_riverTold_54 : decode cX5_riverTold 54 = .ok (.iload_n 2, 1) := by decide +kernel
theorem dX5_riverTold_55 : decode cX5_riverTold 55 = .ok (.iadd, 1) := by decide +kernel
theorem dX5_riverTold_56 : decode cX5_riverTold 56 = .ok (.iaload, 1) := by decide +kernel
theorem dX5_riverTold_57 : decode cX5_riverTold 57 = .ok (.ireturn, 1) := by decide +kernel
theorem dX5_riverTold_58 : decode cX5_riverTold 58 = .ok (.aload_n 0, 1) := by decide +kernel
theorem dX5_riverTold_59 : decode cX5_riverTold 59 = .ok (.getfield 24, 3) := by decide +kernel
theorem dX5_riverTold_62 : decode cX5_riverTold 62 = .ok (.iload_n 1, 1) := by decide +kernel
theorem dX5_riverTold_63 : decode cX5_riverTold 63 = .ok (.iload_n 2, 1) := by decide +kernel
theorem dX5_riverTold_64 : decode cX5_riverTold 64 = .ok (.iconst 1, 1) := by decide +kernel
theorem dX5_riverTold_65 : decode cX5_riverTold 65 = .ok (.invokevirtual 59, 3) := by decide +kernel
theorem dX5_riverTold_68 : decode cX5_riverTold 68 = .ok (.ireturn, 1) := by decide +kernel
set_option maxRecDepth 20000 in
theorem ggX5_river_X5_isLane : GoodIn wsX5_river wsX5_isLane := goodIn_r _ [5, 6, 7, 4, 8] (by decide +kernel) (by decide +kernel)
set_option maxRecDepth 20000 in
theorem gX5_river_X5_isLane : GoodIn wsX5_river (va_wsS RX5 42 yX5_isLane wsX5_isLane) := goodIn_app (goodIn_of _ (by decide +kernel)) ggX5_river_X5_isLane
set_option maxRecDepth 20000 in
theorem ggX5_river_X5_isPlace : GoodIn wsX5_river wsX5_isPlace := goodIn_r _ [11, 6, 7, 4, 8] (by decide +kernel) (by decide +kernel)
set_option maxRecDepth 20000 in
theorem gX5_river_X5_isPlace : GoodIn wsX5_river (va_wsS RX5 50 yX5_isPlace wsX5_isPlace) := goodIn_app (goodIn_of _ (by decide +kernel)) ggX5_river_X5_isPlace
set_option maxRecDepth 20000 in
theorem ggX5_river_X5_isIn : GoodIn wsX5_river wsX5_isIn := goodIn_r _ [8] (by decide +kernel) (by decide +kernel)
set_option maxRecDepth 20000 in
theorem gX5_river_X5_isIn : GoodIn wsX5_river (va_wsS RX5 35 yX5_isIn wsX5_isIn) := goodIn_app (goodIn_of _ (by decide +kernel)) ggX5_river_X5_isIn
set_option maxRecDepth 20000 in
theorem ggX5_river_X5_riverTold : GoodIn wsX5_river wsX5_riverTold := goodIn_r _ [15, 16, 17, 18, 19, 20, 21, 22, 23, 24, 25, 26, 27, 32, 33, 34, 35, 36, 37, 38, 39, 40, 41, 42, 43, 44, 45, 46, 47, 48, 49, 50, 51, 52] (by decide +kernel) (by decide +kernel)
set_option maxRecDepth 20000 in
theorem gX5_river_X5_riverTold : GoodIn wsX5_river (wsV RX5 63 RX5 yX5_riverTold wsX5_riverTold) := goodIn_app (goodIn_of _ (by decide +kernel)) ggX5_river_X5_riverTold
set_option maxRecDepth 20000 in
theorem ggX5_river_X5_no : GoodIn wsX5_river wsX5_no := goodIn_r _ [31, 1, 32, 33, 34, 35, 36, 37, 38, 39] (by decide +kernel) (by decide +kernel)
set_option maxRecDepth 20000 in
theorem gX5_river_X5_no : GoodIn wsX5_river (wsV RX5 46 RX5 yX5_no wsX5_no) := goodIn_app (goodIn_of _ (by decide +kernel)) ggX5_river_X5_no
theorem dX5_river_0 : decode cX5_river 0 = .ok (.aload_n 0, 1) := by decide +kernel
theorem dX5_river_1 : decode cX5_river 1 = .ok (.iconst 0, 1) := by decide +kernel
theorem dX5_river_2 : decode cX5_river 2 = .ok (.putfield 31, 3) := by decide +kernel
theorem dX5_river_5 : decode cX5_river 5 = .ok (.iload_n 1, 1) := by decide +kernel
theorem dX5_river_6 : decode cX5_river 6 = .ok (.invokestatic 42, 3) := by decide +kernel
theorem dX5_river_9 : decode cX5_river 9 = .ok (.ifCond .eq 29, 3) := by decide +kernel
theorem dX5_river_12 : decode cX5_river 12 = .ok (.iload_n 2, 1) := by decide +kernel
theorem dX5_river_13 : decode cX5_river 13 = .ok (.invokestatic 50, 3) := by decide +kernel
theorem dX5_river_16 : decode cX5_river 16 = .ok (.ifCond .eq 22, 3) := by decide +kernel
theorem dX5_river_19 : decode cX5_river 19 = .ok (.iload_n 3, 1) := by decide +kernel
theorem dX5_river_20 : decode cX5_river 20 = .ok (.iconst 0, 1) := by decide +kernel
theorem dX5_river_21 : decode cX5_river 21 = .ok (.iconst 3, 1) := by decide +kernel
theorem dX5_river_22 : decode cX5_river 22 = .ok (.invokestatic 35, 3) := by decide +kernel
theorem dX5_river_25 : decode cX5_river 25 = .ok (.ifCond .eq 13, 3) := by decide +kernel
theorem dX5_river_28 : decode cX5_river 28 = .ok (.aload_n 0, 1) := by decide +kernel
theorem dX5_river_29 : decode cX5_river 29 = .ok (.iload_n 1, 1) := by decide +kernel
theorem dX5_river_30 : decode cX5_river 30 = .ok (.iload_n 2, 1) := by decide +kernel
theorem dX5_river_31 : decode cX5_river 31 = .ok (.iload_n 3, 1) := by decide +kernel
theorem dX5_river_32 : decode cX5_river 32 = .ok (.invokevirtual 63, 3) := by decide +kernel
theorem dX5_river_35 : decode cX5_river 35 = .ok (.goto 8, 3) := by decide +kernel
theorem dX5_river_38 : decode cX5_river 38 = .ok (.aload_n 0, 1) := by decide +kernel
theorem dX5_river_39 : decode cX5_river 39 = .ok (.iconst 1, 1) := by decide +kernel
theorem dX5_river_40 : decode cX5_river 40 = .ok (.invokevirtual 46, 3) := by decide +kernel
theorem dX5_river_43 : decode cX5_river 43 = .ok (.ireturn, 1) := by decide +kernel
set_option maxRecDepth 20000 in
theorem ggX5_launch_X5_isIn : GoodIn wsX5_launch wsX5_isIn := goodIn_r _ [6] (by decide +kernel) (by decide +kernel)
set_option maxRecDepth 20000 in
theorem gX5_launch_X5_isIn : GoodIn wsX5_launch (va_wsS RX5 35 yX5_isIn wsX5_isIn) := goodIn_app (goodIn_of _ (by decide +kernel)) ggX5_launch_X5_isIn
set_option maxRecDepth 20000 in
theorem ggX5_launch_X5_isLane : GoodIn wsX5_launch wsX5_isLane := goodIn_r _ [9, 3, 4, 5, 6] (by decide +kernel) (by decide +kernel)
set_option maxRecDepth 20000 in
theorem gX5_launch_X5_isLane : GoodIn wsX5_launch (va_wsS RX5 42 yX5_isLane wsX5_isLane) := goodIn_app (goodIn_of _ (by decide +kernel)) ggX5_launch_X5_isLane
set_option maxRecDepth 20000 in
theorem ggX5_launch_X5_isPlace : GoodIn wsX5_launch wsX5_isPlace := goodIn_r _ [12, 3, 4, 5, 6] (by decide +kernel) (by decide +kernel)
set_option maxRecDepth 20000 in
theorem gX5_launch_X5_isPlace : GoodIn wsX5_launch (va_wsS RX5 50 yX5_isPlace wsX5_isPlace) := goodIn_app (goodIn_of _ (by decide +kernel)) ggX5_launch_X5_isPlace
set_option maxRecDepth 20000 in
theorem ggX5_launch_X5_no : GoodIn wsX5_launch wsX5_no := goodIn_r _ [16, 1, 32, 33, 34, 35, 36, 37, 38, 39] (by decide +kernel) (by decide +kernel)
set_option maxRecDepth 20000 in
theorem gX5_launch_X5_no : GoodIn wsX5_launch (wsV RX5 46 RX5 yX5_no wsX5_no) := goodIn_app (goodIn_of _ (by decide +kernel)) ggX5_launch_X5_no
set_option maxRecDepth 20000 in
theorem ggX5_launch_X4_launch : GoodIn wsX5_launch wsX4_launch := goodIn_r _ [21, 22, 23, 24, 25, 26, 27, 28, 29, 30, 31, 40, 41, 42, 43, 44, 45, 46, 47, 48, 49, 50, 51, 52] (by decide +kernel) (by decide +kernel)
set_option maxRecDepth 20000 in
theorem gX5_launch_X4_launch : GoodIn wsX5_launch (wsV RX5 66 RX4 yX4_launch wsX4_launch) := goodIn_app (goodIn_of _ (by decide +kernel)) ggX5_launch_X4_launch
theorem dX5_launch_0 : decode cX5_launch 0 = .ok (.aload_n 0, 1) := by decide +kernel
theorem dX5_launch_1 : decode cX5_launch 1 = .ok (.iconst 0, 1) := by decide +kernel
theorem dX5_launch_2 : decode cX5_launch 2 = .ok (.putfield 31, 3) := by decide +kernel
theorem dX5_launch_5 : decode cX5_launch 5 = .ok (.iload_n 1, 1) := by decide +kernel
theorem dX5_launch_6 : decode cX5_launch 6 = .ok (.iconst 0, 1) := by decide +kernel
theorem dX5_launch_7 : decode cX5_launch 7 = .ok (.iconst 2, 1) := by decide +kernel
theorem dX5_launch_8 : decode cX5_launch 8 = .ok (.invokestatic 35, 3) := by decide +kernel
theorem dX5_launch_11 : decode cX5_launch 11 = .ok (.ifCond .eq 18, 3) := by decide +kernel
theorem dX5_launch_14 : decode cX5_launch 14 = .ok (.iload_n 3, 1) := by decide +kernel
theorem dX5_launch_15 : decode cX5_launch 15 = .ok (.invokestatic 42, 3) := by decide +kernel
theorem dX5_launch_18 : decode cX5_launch 18 = .ok (.ifCond .eq 11, 3) := by decide +kernel
theorem dX5_launch_21 : decode cX5_launch 21 = .ok (.iload 4, 2) := by decide +kernel
theorem dX5_launch_23 : decode cX5_launch 23 = .ok (.invokestatic 50, 3) := by decide +kernel
theorem dX5_launch_26 : decode cX5_launch 26 = .ok (.ifCond .ne 9, 3) := by decide +kernel
theorem dX5_launch_29 : decode cX5_launch 29 = .ok (.aload_n 0, 1) := by decide +kernel
theorem dX5_launch_30 : decode cX5_launch 30 = .ok (.iconst 1, 1) := by decide +kernel
theorem dX5_launch_31 : decode cX5_launch 31 = .ok (.invokevirtual 46, 3) := by decide +kernel
theorem dX5_launch_34 : decode cX5_launch 34 = .ok (.ireturn, 1) := by decide +kernel
theorem dX5_launch_35 : decode cX5_launch 35 = .ok (.iload_n 2, 1) := by decide +kernel
theorem dX5_launch_36 : decode cX5_launch 36 = .ok (.iconst 0, 1) := by decide +kernel
theorem dX5_launch_37 : decode cX5_launch 37 = .ok (.sipush 999, 3) := by decide +kernel
theorem dX5_launch_40 : decode cX5_launch 40 = .ok (.invokestatic 35, 3) := by decide +kernel
theorem dX5_launch_43 : decode cX5_launch 43 = .ok (.ifCond .ne 9, 3) := by decide +kernel
theorem dX5_launch_46 : decode cX5_launch 46 = .ok (.aload_n 0, 1) := by decide +kernel
theorem dX5_launch_47 : decode cX5_launch 47 = .ok (.iconst 2, 1) := by decide +kernel
theorem dX5_launch_48 : decode cX5_launch 48 = .ok (.invokevirtual 46, 3) := by decide +kernel
theorem dX5_launch_51 : decode cX5_launch 51 = .ok (.ireturn, 1) := by decide +kernel
theorem dX5_launch_52 : decode cX5_launch 52 = .ok (.aload_n 0, 1) := by decide +kernel
theorem dX5_launch_53 : decode cX5_launch 53 = .ok (.getfield 24, 3) := by decide +kernel
theorem dX5_launch_56 : decode cX5_launch 56 = .ok (.getfield 39, 3) := by decide +kernel
theorem dX5_launch_59 : decode cX5_launch 59 = .ok (.bipush 40, 2) := by decide +kernel
theorem dX5_launch_61 : decode cX5_launch 61 = .ok (.if_icmp .ne 11, 3) := by decide +kernel
theorem dX5_launch_64 : decode cX5_launch 64 = .ok (.aload_n 0, 1) := by decide +kernel
theorem dX5_launch_65 : decode cX5_launch 65 = .ok (.iconst 3, 1) := by decide +kernel
theorem dX5_launch_66 : decode cX5_launch 66 = .ok (.invokevirtual 46, 3) := by decide +kernel
theorem dX5_launch_69 : decode cX5_launch 69 = .ok (.goto 15, 3) := by decide +kernel
theorem dX5_launch_72 : decode cX5_launch 72 = .ok (.aload_n 0, 1) := by decide +kernel
theorem dX5_launch_73 : decode cX5_launch 73 = .ok (.getfield 24, 3) := by decide +kernel
theorem dX5_launch_76 : decode cX5_launch 76 = .ok (.iload_n 1, 1) := by decide +kernel
theorem dX5_launch_77 : decode cX5_launch 77 = .ok (.iload_n 2, 1) := by decide +kernel
theorem dX5_launch_78 : decode cX5_launch 78 = .ok (.iload_n 3, 1) := by decide +kernel
theorem dX5_launch_79 : decode cX5_launch 79 = .ok (.iload 4, 2) := by decide +kernel
theorem dX5_launch_81 : decode cX5_launch 81 = .ok (.invokevirtual 66, 3) := by decide +kernel
theorem dX5_launch_84 : decode cX5_launch 84 = .ok (.ireturn, 1) := by decide +kernel
set_option maxRecDepth 20000 in
theorem ggX5_push_X5_isLantern : GoodIn wsX5_push wsX5_isLantern := goodIn_r _ [7, 2, 8, 9, 6, 10, 18, 19, 20, 21, 22, 23, 24, 25, 26, 27, 28, 29, 30, 31, 32, 33, 34, 35, 36, 37, 38] (by decide +kernel) (by decide +kernel)
set_option maxRecDepth 20000 in
theorem gX5_push_X5_isLantern : GoodIn wsX5_push (wsV RX5 70 RX5 yX5_isLantern wsX5_isLantern) := goodIn_app (goodIn_of _ (by decide +kernel)) ggX5_push_X5_isLantern
set_option maxRecDepth 20000 in
theorem ggX5_push_X5_isLane : GoodIn wsX5_push wsX5_isLane := goodIn_r _ [13, 8, 9, 6, 10] (by decide +kernel) (by decide +kernel)
set_option maxRecDepth 20000 in
theorem gX5_push_X5_isLane : GoodIn wsX5_push (va_wsS RX5 42 yX5_isLane wsX5_isLane) := goodIn_app (goodIn_of _ (by decide +kernel)) ggX5_push_X5_isLane
set_option maxRecDepth 20000 in
theorem ggX5_push_X5_no : GoodIn wsX5_push wsX5_no := goodIn_r _ [17, 1, 18, 19, 20, 21, 22, 23, 24, 25] (by decide +kernel) (by decide +kernel)
set_option maxRecDepth 20000 in
theorem gX5_push_X5_no : GoodIn wsX5_push (wsV RX5 46 RX5 yX5_no wsX5_no) := goodIn_app (goodIn_of _ (by decide +kernel)) ggX5_push_X5_no
theorem dX5_push_0 : decode cX5_push 0 = .ok (.aload_n 0, 1) := by decide +kernel
theorem dX5_push_1 : decode cX5_push 1 = .ok (.iconst 0, 1) := by decide +kernel
theorem dX5_push_2 : decode cX5_push 2 = .ok (.putfield 31, 3) := by decide +kernel
theorem dX5_push_5 : decode cX5_push 5 = .ok (.aload_n 0, 1) := by decide +kernel
theorem dX5_push_6 : decode cX5_push 6 = .ok (.iload_n 1, 1) := by decide +kernel
theorem dX5_push_7 : decode cX5_push 7 = .ok (.invokevirtual 70, 3) := by decide +kernel
theorem dX5_push_10 : decode cX5_push 10 = .ok (.ifCond .eq 10, 3) := by decide +kernel
theorem dX5_push_13 : decode cX5_push 13 = .ok (.iload_n 2, 1) := by decide +kernel
theorem dX5_push_14 : decode cX5_push 14 = .ok (.invokestatic 42, 3) := by decide +kernel
theorem dX5_push_17 : decode cX5_push 17 = .ok (.ifCond .ne 9, 3) := by decide +kernel
theorem dX5_push_20 : decode cX5_push 20 = .ok (.aload_n 0, 1) := by decide +kernel
theorem dX5_push_21 : decode cX5_push 21 = .ok (.iconst 1, 1) := by decide +kernel
theorem dX5_push_22 : decode cX5_push 22 = .ok (.invokevirtual 46, 3) := by decide +kernel
theorem dX5_push_25 : decode cX5_push 25 = .ok (.ireturn, 1) := by decide +kernel
theorem dX5_push_26 : decode cX5_push 26 = .ok (.aload_n 0, 1) := by decide +kernel
theorem dX5_push_27 : decode cX5_push 27 = .ok (.getfield 24, 3) := by decide +kernel
theorem dX5_push_30 : decode cX5_push 30 = .ok (.getfield 73, 3) := by decide +kernel
theorem dX5_push_33 : decode cX5_push 33 = .ok (.iload_n 1, 1) := by decide +kernel
theorem dX5_push_34 : decode cX5_push 34 = .ok (.iaload, 1) := by decide +kernel
theorem dX5_push_35 : decode cX5_push 35 = .ok (.ifCond .eq 9, 3) := by decide +kernel
theorem dX5_push_38 : decode cX5_push 38 = .ok (.aload_n 0, 1) := by decide +kernel
theorem dX5_push_39 : decode cX5_push 39 = .ok (.iconst 2, 1) := by decide +kernel
theorem dX5_push_40 : decode cX5_push 40 = .ok (.invokevirtual 46, 3) := by decide +kernel
theorem dX5_push_43 : decode cX5_push 43 = .ok (.ireturn, 1) := by decide +kernel
theorem dX5_push_44 : decode cX5_push 44 = .ok (.aload_n 0, 1) := by decide +kernel
theorem dX5_push_45 : decode cX5_push 45 = .ok (.getfield 24, 3) := by decide +kernel
theorem dX5_push_48 : decode cX5_push 48 = .ok (.getfield 76, 3) := by decide +kernel
theorem dX5_push_51 : decode cX5_push 51 = .ok (.iload_n 1, 1) := by decide +kernel
theorem dX5_push_52 : decode cX5_push 52 = .ok (.iaload, 1) := by decide +kernel
theorem dX5_push_53 : decode cX5_push 53 = .ok (.istore_n 3, 1) := by decide +kernel
theorem dX5_push_54 : decode cX5_push 54 = .ok (.aload_n 0, 1) := by decide +kernel
theorem dX5_push_55 : decode cX5_push 55 = .ok (.getfield 24, 3) := by decide +kernel
theorem dX5_push_58 : decode cX5_push 58 = .ok (.getfield 76, 3) := by decide +kernel
theorem dX5_push_61 : decode cX5_push 61 = .ok (.iload_n 1, 1) := by decide +kernel
theorem dX5_push_62 : decode cX5_push 62 = .ok (.iload_n 2, 1) := by decide +kernel
theorem dX5_push_63 : decode cX5_push 63 = .ok (.iastore, 1) := by decide +kernel
theorem dX5_push_64 : decode cX5_push 64 = .ok (.iload_n 3, 1) := by decide +kernel
theorem dX5_push_65 : decode cX5_push 65 = .ok (.ireturn, 1) := by decide +kernel
set_option maxRecDepth 20000 in
theorem ggX5_light_X5_isLantern : GoodIn wsX5_light wsX5_isLantern := goodIn_r _ [7, 2, 8, 9, 6, 10, 22, 23, 24, 25, 26, 27, 28, 29, 30, 31, 32, 33, 34, 35, 36, 37, 38, 39, 40, 41, 42] (by decide +kernel) (by decide +kernel)
set_option maxRecDepth 20000 in
theorem gX5_light_X5_isLantern : GoodIn wsX5_light (wsV RX5 70 RX5 yX5_isLantern wsX5_isLantern) := goodIn_app (goodIn_of _ (by decide +kernel)) ggX5_light_X5_isLantern
set_option maxRecDepth 20000 in
theorem ggX5_light_X5_no : GoodIn wsX5_light wsX5_no := goodIn_r _ [14, 1, 22, 23, 24, 25, 26, 27, 28, 29] (by decide +kernel) (by decide +kernel)
set_option maxRecDepth 20000 in
theorem gX5_light_X5_no : GoodIn wsX5_light (wsV RX5 46 RX5 yX5_no wsX5_no) := goodIn_app (goodIn_of _ (by decide +kernel)) ggX5_light_X5_no
set_option maxRecDepth 20000 in
theorem ggX5_light_X4_isSoaked : GoodIn wsX5_light wsX4_isSoaked := goodIn_r _ [19, 20, 21, 30, 31, 32, 33, 34, 35, 36, 37, 38, 39, 40, 41, 42] (by decide +kernel) (by decide +kernel)
set_option maxRecDepth 20000 in
theorem gX5_light_X4_isSoaked : GoodIn wsX5_light (wsV RX5 82 RX4 yX4_isSoaked wsX4_isSoaked) := goodIn_app (goodIn_of _ (by decide +kernel)) ggX5_light_X4_isSoaked
theorem dX5_light_0 : decode cX5_light 0 = .ok (.aload_n 0, 1) := by decide +kernel
theorem dX5_light_1 : decode cX5_light 1 = .ok (.iconst 0, 1) := by decide +kernel
theorem dX5_light_2 : decode cX5_light 2 = .ok (.putfield 31, 3) := by decide +kernel
theorem dX5_light_5 : decode cX5_light 5 = .ok (.aload_n 0, 1) := by decide +kernel
theorem dX5_light_6 : decode cX5_light 6 = .ok (.iload_n 1, 1) := by decide +kernel
theorem dX5_light_7 : decode cX5_light 7 = .ok (.invokevirtual 70, 3) := by decide +kernel
theorem dX5_light_10 : decode cX5_light 10 = .ok (.ifCond .ne 9, 3) := by decide +kernel
theorem dX5_light_13 : decode cX5_light 13 = .ok (.aload_n 0, 1) := by decide +kernel
theorem dX5_light_14 : decode cX5_light 14 = .ok (.iconst 1, 1) := by decide +kernel
theorem dX5_light_15 : decode cX5_light 15 = .ok (.invokevirtual 46, 3) := by decide +kernel
theorem dX5_light_18 : decode cX5_light 18 = .ok (.ireturn, 1) := by decide +kernel
theorem dX5_light_19 : decode cX5_light 19 = .ok (.aload_n 0, 1) := by decide +kernel
theorem dX5_light_20 : decode cX5_light 20 = .ok (.getfield 24, 3) := by decide +kernel
theorem dX5_light_23 : decode cX5_light 23 = .ok (.getfield 73, 3) := by decide +kernel
theorem dX5_light_26 : decode cX5_light 26 = .ok (.iload_n 1, 1) := by decide +kernel
theorem dX5_light_27 : decode cX5_light 27 = .ok (.iaload, 1) := by decide +kernel
theorem dX5_light_28 : decode cX5_light 28 = .ok (.ifCond .ne 39, 3) := by decide +kernel
theorem dX5_light_31 : decode cX5_light 31 = .ok (.aload_n 0, 1) := by decide +kernel
theorem dX5_light_32 : decode cX5_light 32 = .ok (.getfield 24, 3) := by decide +kernel
theorem dX5_light_35 : decode cX5_light 35 = .ok (.getfield 79, 3) := by decide +kernel
theorem dX5_light_38 : decode cX5_light 38 = .ok (.iload_n 1, 1) := by decide +kernel
theorem dX5_light_39 : decode cX5_light 39 = .ok (.iaload, 1) := by decide +kernel
theorem dX5_light_40 : decode cX5_light 40 = .ok (.iconst 1, 1) := by decide +kernel
theorem dX5_light_41 : decode cX5_light 41 = .ok (.if_icmp .eq 26, 3) := by decide +kernel
theorem dX5_light_44 : decode cX5_light 44 = .ok (.aload_n 0, 1) := by decide +kernel
theorem dX5_light_45 : decode cX5_light 45 = .ok (.getfield 24, 3) := by decide +kernel
theorem dX5_light_48 : decode cX5_light 48 = .ok (.iload_n 1, 1) := by decide +kernel
theorem dX5_light_49 : decode cX5_light 49 = .ok (.invokevirtual 82, 3) := by decide +kernel
theorem dX5_light_52 : decode cX5_light 52 = .ok (.ifCond .ne 15, 3) := by decide +kernel
theorem dX5_light_55 : decode cX5_light 55 = .ok (.aload_n 0, 1) := by decide +kernel
theorem dX5_light_56 : decode cX5_light 56 = .ok (.getfield 24, 3) := by decide +kernel
theorem dX5_light_59 : decode cX5_light 59 = .ok (.getfield 85, 3) := by decide +kernel
theorem dX5_light_62 : decode cX5_light 62 = .ok (.iload_n 1, 1) := by decide +kernel
theorem dX5_light_63 : decode cX5_light 63 = .ok (.iaload, 1) := by decide +kernel
theorem dX5_light_64 : decode cX5_light 64 = .ok (.ifCond .ne 9, 3) := by decide +kernel
theorem dX5_light_67 : decode cX5_light 67 = .ok (.aload_n 0, 1) := by decide +kernel
theorem dX5_light_68 : decode cX5_light 68 = .ok (.iconst 2, 1) := by decide +kernel
theorem dX5_light_69 : decode cX5_light 69 = .ok (.invokevirtual 46, 3) := by decide +kernel
theorem dX5_light_72 : decode cX5_light 72 = .ok (.ireturn, 1) := by decide +kernel
theorem dX5_light_73 : decode cX5_light 73 = .ok (.aload_n 0, 1) := by decide +kernel
theorem dX5_light_74 : decode cX5_light 74 = .ok (.getfield 24, 3) := by decide +kernel
theorem dX5_light_77 : decode cX5_light 77 = .ok (.getfield 79, 3) := by decide +kernel
theorem dX5_light_80 : decode cX5_light 80 = .ok (.iload_n 1, 1) := by decide +kernel
theorem dX5_light_81 : decode cX5_light 81 = .ok (.iconst 1, 1) := by decide +kernel
theorem dX5_light_82 : decode cX5_light 82 = .ok (.iastore, 1) := by decide +kernel
theorem dX5_light_83 : decode cX5_light 83 = .ok (.aload_n 0, 1) := by decide +kernel
theorem dX5_light_84 : decode cX5_light 84 = .ok (.getfield 24, 3) := by decide +kernel
theorem dX5_light_87 : decode cX5_light 87 = .ok (.getfield 85, 3) := by decide +kernel
theorem dX5_light_90 : decode cX5_light 90 = .ok (.iload_n 1, 1) := by decide +kernel
theorem dX5_light_91 : decode cX5_light 91 = .ok (.iaload, 1) := by decide +kernel
theorem dX5_light_92 : decode cX5_light 92 = .ok (.ireturn, 1) := by decide +kernel
set_option maxRecDepth 20000 in
theorem ggX5_blow_X5_isLantern : GoodIn wsX5_blow wsX5_isLantern := goodIn_r _ [7, 2, 8, 9, 6, 10, 15, 16, 17, 18, 19, 20, 21, 22, 23, 24, 25, 26, 27, 28, 29, 30, 31, 32, 33, 34, 35] (by decide +kernel) (by decide +kernel)
set_option maxRecDepth 20000 in
theorem gX5_blow_X5_isLantern : GoodIn wsX5_blow (wsV RX5 70 RX5 yX5_isLantern wsX5_isLantern) := goodIn_app (goodIn_of _ (by decide +kernel)) ggX5_blow_X5_isLantern
set_option maxRecDepth 20000 in
theorem ggX5_blow_X5_no : GoodIn wsX5_blow wsX5_no := goodIn_r _ [14, 1, 15, 16, 17, 18, 19, 20, 21, 22] (by decide +kernel) (by decide +kernel)
set_option maxRecDepth 20000 in
theorem gX5_blow_X5_no : GoodIn wsX5_blow (wsV RX5 46 RX5 yX5_no wsX5_no) := goodIn_app (goodIn_of _ (by decide +kernel)) ggX5_blow_X5_no
theorem dX5_blow_0 : decode cX5_blow 0 = .ok (.aload_n 0, 1) := by decide +kernel
theorem dX5_blow_1 : decode cX5_blow 1 = .ok (.iconst 0, 1) := by decide +kernel
theorem dX5_blow_2 : decode cX5_blow 2 = .ok (.putfield 31, 3) := by decide +kernel
theorem dX5_blow_5 : decode cX5_blow 5 = .ok (.aload_n 0, 1) := by decide +kernel
theorem dX5_blow_6 : decode cX5_blow 6 = .ok (.iload_n 1, 1) := by decide +kernel
theorem dX5_blow_7 : decode cX5_blow 7 = .ok (.invokevirtual 70, 3) := by decide +kernel
theorem dX5_blow_10 : decode cX5_blow 10 = .ok (.ifCond .ne 9, 3) := by decide +kernel
theorem dX5_blow_13 : decode cX5_blow 13 = .ok (.aload_n 0, 1) := by decide +kernel
theorem dX5_blow_14 : decode cX5_blow 14 = .ok (.iconst 1, 1) := by decide +kernel
theorem dX5_blow_15 : decode cX5_blow 15 = .ok (.invokevirtual 46, 3) := by decide +kernel
theorem dX5_blow_18 : decode cX5_blow 18 = .ok (.ireturn, 1) := by decide +kernel
theorem dX5_blow_19 : decode cX5_blow 19 = .ok (.aload_n 0, 1) := by decide +kernel
theorem dX5_blow_20 : decode cX5_blow 20 = .ok (.getfield 24, 3) := by decide +kernel
theorem dX5_blow_23 : decode cX5_blow 23 = .ok (.getfield 73, 3) := by decide +kernel
theorem dX5_blow_26 : decode cX5_blow 26 = .ok (.iload_n 1, 1) := by decide +kernel
theorem dX5_blow_27 : decode cX5_blow 27 = .ok (.iaload, 1) := by decide +kernel
theorem dX5_blow_28 : decode cX5_blow 28 = .ok (.ifCond .ne 15, 3) := by decide +kernel
theorem dX5_blow_31 : decode cX5_blow 31 = .ok (.aload_n 0, 1) := by decide +kernel
theorem dX5_blow_32 : decode cX5_blow 32 = .ok (.getfield 24, 3) := by decide +kernel
theorem dX5_blow_35 : decode cX5_blow 35 = .ok (.getfield 79, 3) := by decide +kernel
theorem dX5_blow_38 : decode cX5_blow 38 = .ok (.iload_n 1, 1) := by decide +kernel
theorem dX5_blow_39 : decode cX5_blow 39 = .ok (.iaload, 1) := by decide +kernel
theorem dX5_blow_40 : decode cX5_blow 40 = .ok (.ifCond .ne 9, 3) := by decide +kernel
theorem dX5_blow_43 : decode cX5_blow 43 = .ok (.aload_n 0, 1) := by decide +kernel
theorem dX5_blow_44 : decode cX5_blow 44 = .ok (.iconst 2, 1) := by decide +kernel
theorem dX5_blow_45 : decode cX5_blow 45 = .ok (.invokevirtual 46, 3) := by decide +kernel
theorem dX5_blow_48 : decode cX5_blow 48 = .ok (.ireturn, 1) := by decide +kernel
theorem dX5_blow_49 : decode cX5_blow 49 = .ok (.aload_n 0, 1) := by decide +kernel
theorem dX5_blow_50 : decode cX5_blow 50 = .ok (.getfield 24, 3) := by decide +kernel
theorem dX5_blow_53 : decode cX5_blow 53 = .ok (.getfield 79, 3) := by decide +kernel
theorem dX5_blow_56 : decode cX5_blow 56 = .ok (.iload_n 1, 1) := by decide +kernel
theorem dX5_blow_57 : decode cX5_blow 57 = .ok (.iconst 0, 1) := by decide +kernel
theorem dX5_blow_58 : decode cX5_blow 58 = .ok (.iastore, 1) := by decide +kernel
theorem dX5_blow_59 : decode cX5_blow 59 = .ok (.aload_n 0, 1) := by decide +kernel
theorem dX5_blow_60 : decode cX5_blow 60 = .ok (.getfield 24, 3) := by decide +kernel
theorem dX5_blow_63 : decode cX5_blow 63 = .ok (.getfield 85, 3) := by decide +kernel
theorem dX5_blow_66 : decode cX5_blow 66 = .ok (.iload_n 1, 1) := by decide +kernel
theorem dX5_blow_67 : decode cX5_blow 67 = .ok (.iaload, 1) := by decide +kernel
theorem dX5_blow_68 : decode cX5_blow 68 = .ok (.ireturn, 1) := by decide +kernel
theorem dX5_lanternTold_0 : decode cX5_lanternTold 0 = .ok (.bipush 9, 2) := by decide +kernel
theorem dX5_lanternTold_2 : decode cX5_lanternTold 2 = .ok (.newarray .int, 2) := by decide +kernel
theorem dX5_lanternTold_4 : decode cX5_lanternTold 4 = .ok (.dup, 1) := by decide +kernel
theorem dX5_lanternTold_5 : decode cX5_lanternTold 5 = .ok (.iconst 0, 1) := by decide +kernel
theorem dX5_lanternTold_6 : decode cX5_lanternTold 6 = .ok (.aload_n 0, 1) := by decide +kernel
theorem dX5_lanternTold_7 : decode cX5_lanternTold 7 = .ok (.getfield 24, 3) := by decide +kernel
theorem dX5_lanternTold_10 : decode cX5_lanternTold 10 = .ok (.getfield 88, 3) := by decide +kernel
theorem dX5_lanternTold_13 : decode cX5_lanternTold 13 = .ok (.iload_n 1, 1) := by decide +kernel
theorem dX5_lanternTold_14 : decode cX5_lanternTold 14 = .ok (.iaload, 1) := by decide +kernel
theorem dX5_lanternTold_15 : decode cX5_lanternTold 15 = .ok (.iastore, 1) := by decide +kernel
theorem dX5_lanternTold_16 : decode cX5_lanternTold 16 = .ok (.dup, 1) := by decide +kernel
theorem dX5_lanternTold_17 : decode cX5_lanternTold 17 = .ok (.iconst 1, 1) := by decide +kernel
theorem dX5_lanternTold_18 : decode cX5_lanternTold 18 = .ok (.aload_n 0, 1) := by decide +kernel
theorem dX5_lanternTold_19 : decode cX5_lanternTold 19 = .ok (.getfield 24, 3) := by decide +kernel
theorem dX5_lanternTold_22 : decode cX5_lanternTold 22 = .ok (.getfield 91, 3) := by decide +kernel
theorem dX5_lanternTold_25 : decode cX5_lanternTold 25 = .ok (.iload_n 1, 1) := by decide +kernel
theorem dX5_lanternTold_26 : decode cX5_lanternTold 26 = .ok (.iaload, 1) := by decide +kernel
theorem dX5_lanternTold_27 : decode cX5_lanternTold 27 = .ok (.iastore, 1) := by decide +kernel
theorem dX5_lanternTold_28 : decode cX5_lanternTold 28 = .ok (.dup, 1) := by decide +kernel
theorem dX5_lanternTold_29 : decode cX5_lanternTold 29 = .ok (.iconst 2, 1) := by decide +kernel
theorem dX5_lanternTold_30 : decode cX5_lanternTold 30 = .ok (.aload_n 0, 1) := by decide +kernel
theorem dX5_lanternTold_31 : decode cX5_lanternTold 31 = .ok (.getfield 24, 3) := by decide +kernel
theorem dX5_lanternTold_34 : decode cX5_lanternTold 34 = .ok (.getfield 76, 3) := by decide +kernel
theorem dX5_lanternTold_37 : decode cX5_lanternTold 37 = .ok (.iload_n 1, 1) := by decide +kernel
theorem dX5_lanternTold_38 : decode cX5_lanternTold 38 = .ok (.iaload, 1) := by decide +kernel
theorem dX5_lanternTold_39 : decode cX5_lanternTold 39 = .ok (.iastore, 1) := by decide +kernel
theorem dX5_lanternTold_40 : decode cX5_lanternTold 40 = .ok (.dup, 1) := by decide +kernel
theorem dX5_lanternTold_41 : decode cX5_lanternTold 41 = .ok (.iconst 3, 1) := by decide +kernel
theorem dX5_lanternTold_42 : decode cX5_lanternTold 42 = .ok (.aload_n 0, 1) := by decide +kernel
theorem dX5_lanternTold_43 : decode cX5_lanternTold 43 = .ok (.getfield 24, 3) := by decide +kernel
theorem dX5_lanternTold_46 : decode cX5_lanternTold 46 = .ok (.getfield 94, 3) := by decide +kernel
theorem dX5_lanternTold_49 : decode cX5_lanternTold 49 = .ok (.iload_n 1, 1) := by decide +kernel
theorem dX5_lanternTold_50 : decode cX5_lanternTold 50 = .ok (.iaload, 1) := by decide +kernel
theorem dX5_lanternTold_51 : decode cX5_lanternTold 51 = .ok (.iastore, 1) := by decide +kernel
theorem dX5_lanternTold_52 : decode cX5_lanternTold 52 = .ok (.dup, 1) := by decide +kernel
theorem dX5_lanternTold_53 : decode cX5_lanternTold 53 = .ok (.iconst 4, 1) := by decide +kernel
theorem dX5_lanternTold_54 : decode cX5_lanternTold 54 = .ok (.aload_n 0, 1) := by decide +kernel
theorem dX5_lanternTold_55 : decode cX5_lanternTold 55 = .ok (.getfield 24, 3) := by decide +kernel
theorem dX5_lanternTold_58 : decode cX5_lanternTold 58 = .ok (.getfield 85, 3) := by decide +kernel
theorem dX5_lanternTold_61 : decode cX5_lanternTold 61 = .ok (.iload_n 1, 1) := by decide +kernel
theorem dX5_lanternTold_62 : decode cX5_lanternTold 62 = .ok (.iaload, 1) := by decide +kernel
theorem dX5_lanternTold_63 : decode cX5_lanternTold 63 = .ok (.iastore, 1) := by decide +kernel
theorem dX5_lanternTold_64 : decode cX5_lanternTold 64 = .ok (.dup, 1) := by decide +kernel
theorem dX5_lanternTold_65 : decode cX5_lanternTold 65 = .ok (.iconst 5, 1) := by decide +kernel
theorem dX5_lanternTold_66 : decode cX5_lanternTold 66 = .ok (.aload_n 0, 1) := by decide +kernel
theorem dX5_lanternTold_67 : decode cX5_lanternTold 67 = .ok (.getfield 24, 3) := by decide +kernel
theorem dX5_lanternTold_70 : decode cX5_lanternTold 70 = .ok (.getfield 97, 3) := by decide +kernel
theorem dX5_lanternTold_73 : decode cX5_lanternTold 73 = .ok (.iload_n 1, 1) := by decide +kernel
theorem dX5_lanternTold_74 : decode cX5_lanternTold 74 = .ok (.iaload, 1) := by decide +kernel
theorem dX5_lanternTold_75 : decode cX5_lanternTold 75 = .ok (.iastore, 1) := by decide +kernel
theorem dX5_lanternTold_76 : decode cX5_lanternTold 76 = .ok (.dup, 1) := by decide +kernel
theorem dX5_lanternTold_77 : decode cX5_lanternTold 77 = .ok (.bipush 6, 2) := by decide +kernel
theorem dX5_lanternTold_79 : decode cX5_lanternTold 79 = .ok (.aload_n 0, 1) := by decide +kernel
theorem dX5_lanternTold_80 : decode cX5_lanternTold 80 = .ok (.getfield 24, 3) := by decide +kernel
theorem dX5_lanternTold_83 : decode cX5_lanternTold 83 = .ok (.getfield 79, 3) := by decide +kernel
theorem dX5_lanternTold_86 : decode cX5_lanternTold 86 = .ok (.iload_n 1, 1) := by decide +kernel
theorem dX5_lanternTold_87 : decode cX5_lanternTold 87 = .ok (.iaload, 1) := by decide +kernel
theorem dX5_lanternTold_88 : decode cX5_lanternTold 88 = .ok (.iastore, 1) := by decide +kernel
theorem dX5_lanternTold_89 : decode cX5_lanternTold 89 = .ok (.dup, 1) := by decide +kernel
theorem dX5_lanternTold_90 : decode cX5_lanternTold 90 = .ok (.bipush 7, 2) := by decide +kernel
theorem dX5_lanternTold_92 : decode cX5_lanternTold 92 = .ok (.aload_n 0, 1) := by decide +kernel
theorem dX5_lanternTold_93 : decode cX5_lanternTold 93 = .ok (.getfield 24, 3) := by decide +kernel
theorem dX5_lanternTold_96 : decode cX5_lanternTold 96 = .ok (.getfield 73, 3) := by decide +kernel
theorem dX5_lanternTold_99 : decode cX5_lanternTold 99 = .ok (.iload_n 1, 1) := by decide +kernel
theorem dX5_lanternTold_100 : decode cX5_lanternTold 100 = .ok (.iaload, 1) := by decide +kernel
theorem dX5_lanternTold_101 : decode cX5_lanternTold 101 = .ok (.iastore, 1) := by decide +kernel
theorem dX5_lanternTold_102 : decode cX5_lanternTold 102 = .ok (.dup, 1) := by decide +kernel
theorem dX5_lanternTold_103 : decode cX5_lanternTold 103 = .ok (.bipush 8, 2) := by decide +kernel
theorem dX5_lanternTold_105 : decode cX5_lanternTold 105 = .ok (.aload_n 0, 1) := by decide +kernel
theorem dX5_lanternTold_106 : decode cX5_lanternTold 106 = .ok (.getfield 24, 3) := by decide +kernel
theorem dX5_lanternTold_109 : decode cX5_lanternTold 109 = .ok (.getfield 100, 3) := by decide +kernel
theorem dX5_lanternTold_112 : decode cX5_lanternTold 112 = .ok (.iload_n 1, 1) := by decide +kernel
theorem dX5_lanternTold_113 : decode cX5_lanternTold 113 = .ok (.iaload, 1) := by decide +kernel
theorem dX5_lanternTold_114 : decode cX5_lanternTold 114 = .ok (.iastore, 1) := by decide +kernel
theorem dX5_lanternTold_115 : decode cX5_lanternTold 115 = .ok (.astore_n 3, 1) := by decide +kernel
theorem dX5_lanternTold_116 : decode cX5_lanternTold 116 = .ok (.aload_n 3, 1) := by decide +kernel
theorem dX5_lanternTold_117 : decode cX5_lanternTold 117 = .ok (.iload_n 2, 1) := by decide +kernel
theorem dX5_lanternTold_118 : decode cX5_lanternTold 118 = .ok (.iaload, 1) := by decide +kernel
theorem dX5_lanternTold_119 : decode cX5_lanternTold 119 = .ok (.ireturn, 1) := by decide +kernel
set_option maxRecDepth 20000 in
theorem ggX5_told_X5_isLantern : GoodIn wsX5_told wsX5_isLantern := goodIn_r _ [6, 7, 8, 9, 5, 10, 20, 21, 22, 23, 24, 25, 26, 27, 28, 29, 30, 31, 32, 33, 34, 35, 36, 37, 38, 39, 40] (by decide +kernel) (by decide +kernel)
set_option maxRecDepth 20000 in
theorem gX5_told_X5_isLantern : GoodIn wsX5_told (wsV RX5 70 RX5 yX5_isLantern wsX5_isLantern) := goodIn_app (goodIn_of _ (by decide +kernel)) ggX5_told_X5_isLantern
set_option maxRecDepth 20000 in
theorem ggX5_told_X5_isIn : GoodIn wsX5_told wsX5_isIn := goodIn_r _ [10] (by decide +kernel) (by decide +kernel)
set_option maxRecDepth 20000 in
theorem gX5_told_X5_isIn : GoodIn wsX5_told (va_wsS RX5 35 yX5_isIn wsX5_isIn) := goodIn_app (goodIn_of _ (by decide +kernel)) ggX5_told_X5_isIn
set_option maxRecDepth 20000 in
theorem ggX5_told_X5_lanternTold : GoodIn wsX5_told wsX5_lanternTold := goodIn_r _ [14, 15, 7, 20, 21, 22, 23, 24, 25, 26, 27, 28, 29, 30, 31, 32, 33, 34, 35, 36, 37, 38, 39, 40] (by decide +kernel) (by decide +kernel)
set_option maxRecDepth 20000 in
theorem gX5_told_X5_lanternTold : GoodIn wsX5_told (wsV RX5 103 RX5 yX5_lanternTold wsX5_lanternTold) := goodIn_app (goodIn_of _ (by decide +kernel)) ggX5_told_X5_lanternTold
set_option maxRecDepth 20000 in
theorem ggX5_told_X5_no : GoodIn wsX5_told wsX5_no := goodIn_r _ [19, 1, 20, 21, 22, 23, 24, 25, 26, 27] (by decide +kernel) (by decide +kernel)
set_option maxRecDepth 20000 in
theorem gX5_told_X5_no : GoodIn wsX5_told (wsV RX5 46 RX5 yX5_no wsX5_no) := goodIn_app (goodIn_of _ (by decide +kernel)) ggX5_told_X5_no
theorem dX5_told_0 : decode cX5_told 0 = .ok (.aload_n 0, 1) := by decide +kernel
theorem dX5_told_1 : decode cX5_told 1 = .ok (.iconst 0, 1) := by decide +kernel
theorem dX5_told_2 : decode cX5_told 2 = .ok (.putfield 31, 3) := by decide +kernel
theorem dX5_told_5 : decode cX5_told 5 = .ok (.aload_n 0, 1) := by decide +kernel
theorem dX5_told_6 : decode cX5_told 6 = .ok (.iload_n 1, 1) := by decide +kernel
theorem dX5_told_7 : decode cX5_told 7 = .ok (.invokevirtual 70, 3) := by decide +kernel
theorem dX5_told_10 : decode cX5_told 10 = .ok (.ifCond .eq 22, 3) := by decide +kernel
theorem dX5_told_13 : decode cX5_told 13 = .ok (.iload_n 2, 1) := by decide +kernel
theorem dX5_told_14 : decode cX5_told 14 = .ok (.iconst 0, 1) := by decide +kernel
theorem dX5_told_15 : decode cX5_told 15 = .ok (.bipush 8, 2) := by decide +kernel
theorem dX5_told_17 : decode cX5_told 17 = .ok (.invokestatic 35, 3) := by decide +kernel
theorem dX5_told_20 : decode cX5_told 20 = .ok (.ifCond .eq 12, 3) := by decide +kernel
theorem dX5_told_23 : decode cX5_told 23 = .ok (.aload_n 0, 1) := by decide +kernel
theorem dX5_told_24 : decode cX5_told 24 = .ok (.iload_n 1, 1) := by decide +kernel
theorem dX5_told_25 : decode cX5_told 25 = .ok (.iload_n 2, 1) := by decide +kernel
theorem dX5_told_26 : decode cX5_told 26 = .ok (.invokevirtual 103, 3) := by decide +kernel
theorem dX5_told_29 : decode cX5_told 29 = .ok (.goto 8, 3) := by decide +kernel
theorem dX5_told_32 : decode cX5_told 32 = .ok (.aload_n 0, 1) := by decide +kernel
theorem dX5_told_33 : decode cX5_told 33 = .ok (.iconst 1, 1) := by decide +kernel
theorem dX5_told_34 : decode cX5_told 34 = .ok (.invokevirtual 46, 3) := by decide +kernel
theorem dX5_told_37 : decode cX5_told 37 = .ok (.ireturn, 1) := by decide +kernel
theorem dX5_nextOf_0 : decode cX5_nextOf 0 = .ok (.aload_n 0, 1) := by decide +kernel
theorem dX5_nextOf_1 : decode cX5_nextOf 1 = .ok (.getfield 24, 3) := by decide +kernel
theorem dX5_nextOf_4 : decode cX5_nextOf 4 = .ok (.getfield 94, 3) := by decide +kernel
theorem dX5_nextOf_7 : decode cX5_nextOf 7 = .ok (.iload_n 1, 1) := by decide +kernel
theorem dX5_nextOf_8 : decode cX5_nextOf 8 = .ok (.iaload, 1) := by decide +kernel
theorem dX5_nextOf_9 : decode cX5_nextOf 9 = .ok (.iconst 1, 1) := by decide +kernel
theorem dX5_nextOf_10 : decode cX5_nextOf 10 = .ok (.iadd, 1) := by decide +kernel
theorem dX5_nextOf_11 : decode cX5_nextOf 11 = .ok (.istore_n 2, 1) := by decide +kernel
theorem dX5_nextOf_12 : decode cX5_nextOf 12 = .ok (.iload_n 2, 1) := by decide +kernel
theorem dX5_nextOf_13 : decode cX5_nextOf 13 = .ok (.bipush 60, 2) := by decide +kernel
theorem dX5_nextOf_15 : decode cX5_nextOf 15 = .ok (.if_icmp .ge 32, 3) := by decide +kernel
theorem dX5_nextOf_18 : decode cX5_nextOf 18 = .ok (.aload_n 0, 1) := by decide +kernel
theorem dX5_nextOf_19 : decode cX5_nextOf 19 = .ok (.getfield 24, 3) := by decide +kernel
theorem dX5_nextOf_22 : decode cX5_nextOf 22 = .ok (.getfield 73, 3) := by decide +kernel
theorem dX5_nextOf_25 : decode cX5_nextOf 25 = .ok (.iload_n 1, 1) := by decide +kernel
theorem dX5_nextOf_26 : decode cX5_nextOf 26 = .ok (.iaload, 1) := by decide +kernel
theorem dX5_nextOf_27 : decode cX5_nextOf 27 = .ok (.ifCond .ne 20, 3) := by decide +kernel
theorem dX5_nextOf_30 : decode cX5_nextOf 30 = .ok (.aload_n 0, 1) := by decide +kernel
theorem dX5_nextOf_31 : decode cX5_nextOf 31 = .ok (.getfield 13, 3) := by decide +kernel
theorem dX5_nextOf_34 : decode cX5_nextOf 34 = .ok (.iload_n 2, 1) := by decide +kernel
theorem dX5_nextOf_35 : decode cX5_nextOf 35 = .ok (.iaload, 1) := by decide +kernel
theorem dX5_nextOf_36 : decode cX5_nextOf 36 = .ok (.ifCond .le 5, 3) := by decide +kernel
theorem dX5_nextOf_39 : decode cX5_nextOf 39 = .ok (.iload_n 2, 1) := by decide +kernel
theorem dX5_nextOf_40 : decode cX5_nextOf 40 = .ok (.ireturn, 1) := by decide +kernel
theorem dX5_nextOf_41 : decode cX5_nextOf 41 = .ok (.iinc 2 1, 3) := by decide +kernel
theorem dX5_nextOf_44 : decode cX5_nextOf 44 = .ok (.goto (-32), 3) := by decide +kernel
theorem dX5_nextOf_47 : decode cX5_nextOf 47 = .ok (.iconst (-1), 1) := by decide +kernel
theorem dX5_nextOf_48 : decode cX5_nextOf 48 = .ok (.ireturn, 1) := by decide +kernel
set_option maxRecDepth 20000 in
theorem ggX5_next_X5_isLantern : GoodIn wsX5_next wsX5_isLantern := goodIn_r _ [6, 7, 8, 9, 5, 10, 20, 21, 22, 23, 24, 25, 26, 27, 28, 29, 30, 31, 32, 33, 34, 35, 36, 37, 38, 39, 40] (by decide +kernel) (by decide +kernel)
set_option maxRecDepth 20000 in
theorem gX5_next_X5_isLantern : GoodIn wsX5_next (wsV RX5 70 RX5 yX5_isLantern wsX5_isLantern) := goodIn_app (goodIn_of _ (by decide +kernel)) ggX5_next_X5_isLantern
set_option maxRecDepth 20000 in
theorem ggX5_next_X5_nextOf : GoodIn wsX5_next wsX5_nextOf := goodIn_r _ [14, 7, 15, 20, 21, 22, 23, 24, 25, 26, 27, 28, 29, 30, 31, 32, 33, 34, 35, 36, 37, 38, 39, 40] (by decide +kernel) (by decide +kernel)
set_option maxRecDepth 20000 in
theorem gX5_next_X5_nextOf : GoodIn wsX5_next (wsV RX5 107 RX5 yX5_nextOf wsX5_nextOf) := goodIn_app (goodIn_of _ (by decide +kernel)) ggX5_next_X5_nextOf
set_option maxRecDepth 20000 in
theorem ggX5_next_X5_no : GoodIn wsX5_next wsX5_no := goodIn_r _ [19, 1, 20, 21, 22, 23, 24, 25, 26, 27] (by decide +kernel) (by decide +kernel)
set_option maxRecDepth 20000 in
theorem gX5_next_X5_no : GoodIn wsX5_next (wsV RX5 46 RX5 yX5_no wsX5_no) := goodIn_app (goodIn_of _ (by decide +kernel)) ggX5_next_X5_no
theorem dX5_next_0 : decode cX5_next 0 = .ok (.aload_n 0, 1) := by decide +kernel
theorem dX5_next_1 : decode cX5_next 1 = .ok (.iconst 0, 1) := by decide +kernel
theorem dX5_next_2 : decode cX5_next 2 = .ok (.putfield 31, 3) := by decide +kernel
theorem dX5_next_5 : decode cX5_next 5 = .ok (.aload_n 0, 1) := by decide +kernel
theorem dX5_next_6 : decode cX5_next 6 = .ok (.iload_n 1, 1) := by decide +kernel
theorem dX5_next_7 : decode cX5_next 7 = .ok (.invokevirtual 70, 3) := by decide +kernel
theorem dX5_next_10 : decode cX5_next 10 = .ok (.ifCond .eq 11, 3) := by decide +kernel
theorem dX5_next_13 : decode cX5_next 13 = .ok (.aload_n 0, 1) := by decide +kernel
theorem dX5_next_14 : decode cX5_next 14 = .ok (.iload_n 1, 1) := by decide +kernel
theorem dX5_next_15 : decode cX5_next 15 = .ok (.invokevirtual 107, 3) := by decide +kernel
theorem dX5_next_18 : decode cX5_next 18 = .ok (.goto 8, 3) := by decide +kernel
theorem dX5_next_21 : decode cX5_next 21 = .ok (.aload_n 0, 1) := by decide +kernel
theorem dX5_next_22 : decode cX5_next 22 = .ok (.iconst 1, 1) := by decide +kernel
theorem dX5_next_23 : decode cX5_next 23 = .ok (.invokevirtual 46, 3) := by decide +kernel
theorem dX5_next_26 : decode cX5_next 26 = .ok (.ireturn, 1) := by decide +kernel
set_option maxRecDepth 20000 in
theorem ggX5_count_X5_isIn : GoodIn wsX5_count wsX5_isIn := goodIn_r _ [6] (by decide +kernel) (by decide +kernel)
set_option maxRecDepth 20000 in
theorem gX5_count_X5_isIn : GoodIn wsX5_count (va_wsS RX5 35 yX5_isIn wsX5_isIn) := goodIn_app (goodIn_of _ (by decide +kernel)) ggX5_count_X5_isIn
set_option maxRecDepth 20000 in
theorem ggX5_count_X4_counted : GoodIn wsX5_count wsX4_counted := goodIn_r _ [11, 12, 13, 14, 15, 16, 17, 18, 31, 32, 33, 34, 35, 36, 37, 38, 39, 40, 41, 42, 43, 23, 24, 25, 26, 27, 28, 29, 30] (by decide +kernel) (by decide +kernel)
set_option maxRecDepth 20000 in
theorem gX5_count_X4_counted : GoodIn wsX5_count (wsV RX5 110 RX4 yX4_counted wsX4_counted) := goodIn_app (goodIn_of _ (by decide +kernel)) ggX5_count_X4_counted
set_option maxRecDepth 20000 in
theorem ggX5_count_X5_no : GoodIn wsX5_count wsX5_no := goodIn_r _ [22, 1, 23, 24, 25, 26, 27, 28, 29, 30] (by decide +kernel) (by decide +kernel)
set_option maxRecDepth 20000 in
theorem gX5_count_X5_no : GoodIn wsX5_count (wsV RX5 46 RX5 yX5_no wsX5_no) := goodIn_app (goodIn_of _ (by decide +kernel)) ggX5_count_X5_no
theorem dX5_count_0 : decode cX5_count 0 = .ok (.aload_n 0, 1) := by decide +kernel
theorem dX5_count_1 : decode cX5_count 1 = .ok (.iconst 0, 1) := by decide +kernel
theorem dX5_count_2 : decode cX5_count 2 = .ok (.putfield 31, 3) := by decide +kernel
theorem dX5_count_5 : decode cX5_count 5 = .ok (.iload_n 1, 1) := by decide +kernel
theorem dX5_count_6 : decode cX5_count 6 = .ok (.iconst 0, 1) := by decide +kernel
theorem dX5_count_7 : decode cX5_count 7 = .ok (.bipush 9, 2) := by decide +kernel
theorem dX5_count_9 : decode cX5_count 9 = .ok (.invokestatic 35, 3) := by decide +kernel
theorem dX5_count_12 : decode cX5_count 12 = .ok (.ifCond .eq 14, 3) := by decide +kernel
theorem dX5_count_15 : decode cX5_count 15 = .ok (.aload_n 0, 1) := by decide +kernel
theorem dX5_count_16 : decode cX5_count 16 = .ok (.getfield 24, 3) := by decide +kernel
theorem dX5_count_19 : decode cX5_count 19 = .ok (.iload_n 1, 1) := by decide +kernel
theorem dX5_count_20 : decode cX5_count 20 = .ok (.invokevirtual 110, 3) := by decide +kernel
theorem dX5_count_23 : decode cX5_count 23 = .ok (.goto 8, 3) := by decide +kernel
theorem dX5_count_26 : decode cX5_count 26 = .ok (.aload_n 0, 1) := by decide +kernel
theorem dX5_count_27 : decode cX5_count 27 = .ok (.iconst 1, 1) := by decide +kernel
theorem dX5_count_28 : decode cX5_count 28 = .ok (.invokevirtual 46, 3) := by decide +kernel
theorem dX5_count_31 : decode cX5_count 31 = .ok (.ireturn, 1) := by decide +kernel
set_option maxRecDepth 20000 in
theorem ggX5_pass_X5_isIn : GoodIn wsX5_pass wsX5_isIn := goodIn_r _ [6] (by decide +kernel) (by decide +kernel)
set_option maxRecDepth 20000 in
theorem gX5_pass_X5_isIn : GoodIn wsX5_pass (va_wsS RX5 35 yX5_isIn wsX5_isIn) := goodIn_app (goodIn_of _ (by decide +kernel)) ggX5_pass_X5_isIn
set_option maxRecDepth 20000 in
theorem ggX5_pass_X5_no : GoodIn wsX5_pass wsX5_no := goodIn_r _ [10, 1, 70, 71, 72, 73, 74, 75, 76, 77] (by decide +kernel) (by decide +kernel)
set_option maxRecDepth 20000 in
theorem gX5_pass_X5_no : GoodIn wsX5_pass (wsV RX5 46 RX5 yX5_no wsX5_no) := goodIn_app (goodIn_of _ (by decide +kernel)) ggX5_pass_X5_no
set_option maxRecDepth 20000 in
theorem ggX5_pass_X4_counted : GoodIn wsX5_pass wsX4_counted := goodIn_r _ [15, 16, 17, 18, 19, 20, 21, 22, 78, 79, 80, 81, 82, 83, 84, 85, 86, 87, 88, 89, 90, 70, 71, 72, 73, 74, 75, 76, 77] (by decide +kernel) (by decide +kernel)
set_option maxRecDepth 20000 in
theorem gX5_pass_X4_counted : GoodIn wsX5_pass (wsV RX5 110 RX4 yX4_counted wsX4_counted) := goodIn_app (goodIn_of _ (by decide +kernel)) ggX5_pass_X4_counted
set_option maxRecDepth 20000 in
theorem ggX5_pass_X4_pass_ : GoodIn wsX5_pass wsX4_pass_ := goodIn_r _ [26, 27, 18, 20, 21, 28, 17, 29, 30, 31, 14, 32, 33, 34, 35, 36, 37, 38, 39, 40, 41, 42, 19, 43, 44, 45, 46, 47, 48, 49, 50, 51, 52, 53, 54, 55, 56, 57, 58, 59, 60, 61, 62, 63, 64, 65, 66, 67, 68, 69, 78, 79, 80, 81, 82, 83, 84, 85, 86, 87, 88, 89, 90, 70, 71, 72, 73, 74, 75, 76, 77] (by decide +kernel) (by decide +kernel)
set_option maxRecDepth 20000 in
theorem gX5_pass_X4_pass_ : GoodIn wsX5_pass (wsV RX5 113 RX4 yX4_pass_ wsX4_pass_) := goodIn_app (goodIn_of _ (by decide +kernel)) ggX5_pass_X4_pass_
theorem dX5_pass_0 : decode cX5_pass 0 = .ok (.aload_n 0, 1) := by decide +kernel
theorem dX5_pass_1 : decode cX5_pass 1 = .ok (.iconst 0, 1) := by decide +kernel
theorem dX5_pass_2 : decode cX5_pass 2 = .ok (.putfield 31, 3) := by decide +kernel
theorem dX5_pass_5 : decode cX5_pass 5 = .ok (.iload_n 1, 1) := by decide +kernel
theorem dX5_pass_6 : decode cX5_pass 6 = .ok (.iconst 1, 1) := by decide +kernel
theorem dX5_pass_7 : decode cX5_pass 7 = .ok (.bipush 90, 2) := by decide +kernel
theorem dX5_pass_9 : decode cX5_pass 9 = .ok (.invokestatic 35, 3) := by decide +kernel
theorem dX5_pass_12 : decode cX5_pass 12 = .ok (.ifCond .ne 9, 3) := by decide +kernel
theorem dX5_pass_15 : decode cX5_pass 15 = .ok (.aload_n 0, 1) := by decide +kernel
theorem dX5_pass_16 : decode cX5_pass 16 = .ok (.iconst 1, 1) := by decide +kernel
theorem dX5_pass_17 : decode cX5_pass 17 = .ok (.invokevirtual 46, 3) := by decide +kernel
theorem dX5_pass_20 : decode cX5_pass 20 = .ok (.ireturn, 1) := by decide +kernel
theorem dX5_pass_21 : decode cX5_pass 21 = .ok (.aload_n 0, 1) := by decide +kernel
theorem dX5_pass_22 : decode cX5_pass 22 = .ok (.getfield 24, 3) := by decide +kernel
theorem dX5_pass_25 : decode cX5_pass 25 = .ok (.iconst 3, 1) := by decide +kernel
theorem dX5_pass_26 : decode cX5_pass 26 = .ok (.invokevirtual 110, 3) := by decide +kernel
theorem dX5_pass_29 : decode cX5_pass 29 = .ok (.istore_n 2, 1) := by decide +kernel
theorem dX5_pass_30 : decode cX5_pass 30 = .ok (.iconst 0, 1) := by decide +kernel
theorem dX5_pass_31 : decode cX5_pass 31 = .ok (.istore_n 3, 1) := by decide +kernel
theorem dX5_pass_32 : decode cX5_pass 32 = .ok (.iload_n 3, 1) := by decide +kernel
theorem dX5_pass_33 : decode cX5_pass 33 = .ok (.iload_n 1, 1) := by decide +kernel
theorem dX5_pass_34 : decode cX5_pass 34 = .ok (.if_icmp .ge 16, 3) := by decide +kernel
theorem dX5_pass_37 : decode cX5_pass 37 = .ok (.aload_n 0, 1) := by decide +kernel
theorem dX5_pass_38 : decode cX5_pass 38 = .ok (.getfield 24, 3) := by decide +kernel
theorem dX5_pass_41 : decode cX5_pass 41 = .ok (.invokevirtual 113, 3) := by decide +kernel
theorem dX5_pass_44 : decode cX5_pass 44 = .ok (.iinc 3 1, 3) := by decide +kernel
theorem dX5_pass_47 : decode cX5_pass 47 = .ok (.goto (-15), 3) := by decide +kernel
theorem dX5_pass_50 : decode cX5_pass 50 = .ok (.aload_n 0, 1) := by decide +kernel
theorem dX5_pass_51 : decode cX5_pass 51 = .ok (.getfield 24, 3) := by decide +kernel
theorem dX5_pass_54 : decode cX5_pass 54 = .ok (.iconst 3, 1) := by decide +kernel
theorem dX5_pass_55 : decode cX5_pass 55 = .ok (.invokevirtual 110, 3) := by decide +kernel
theorem dX5_pass_58 : decode cX5_pass 58 = .ok (.iload_n 2, 1) := by decide +kernel
theorem dX5_pass_59 : decode cX5_pass 59 = .ok (.isub, 1) := by decide +kernel
theorem dX5_pass_60 : decode cX5_pass 60 = .ok (.ireturn, 1) := by decide +kernel
set_option maxRecDepth 20000 in
theorem ggX5_burns_X5_isLantern : GoodIn wsX5_burns wsX5_isLantern := goodIn_r _ [8, 3, 9, 10, 7, 11, 82, 83, 84, 85, 86, 87, 88, 89, 90, 91, 92, 93, 94, 95, 96, 97, 98, 99, 100, 101, 102] (by decide +kernel) (by decide +kernel)
set_option maxRecDepth 20000 in
theorem gX5_burns_X5_isLantern : GoodIn wsX5_burns (wsV RX5 70 RX5 yX5_isLantern wsX5_isLantern) := goodIn_app (goodIn_of _ (by decide +kernel)) ggX5_burns_X5_isLantern
set_option maxRecDepth 20000 in
theorem ggX5_burns_X5_no : GoodIn wsX5_burns wsX5_no := goodIn_r _ [15, 1, 82, 83, 84, 85, 86, 87, 88, 89] (by decide +kernel) (by decide +kernel)
set_option maxRecDepth 20000 in
theorem gX5_burns_X5_no : GoodIn wsX5_burns (wsV RX5 46 RX5 yX5_no wsX5_no) := goodIn_app (goodIn_of _ (by decide +kernel)) ggX5_burns_X5_no
set_option maxRecDepth 20000 in
theorem ggX5_burns_X4_become : GoodIn wsX5_burns wsX4_become := goodIn_r _ [20, 21, 22, 23, 24, 25, 26, 27, 28, 29, 30, 31, 32, 33, 34, 19, 35, 36, 37, 38, 39, 90, 91, 92, 93, 94, 95, 96, 97, 98, 99, 100, 101, 102] (by decide +kernel) (by decide +kernel)
set_option maxRecDepth 20000 in
theorem gX5_burns_X4_become : GoodIn wsX5_burns (wsV RX5 116 RX4 yX4_become wsX4_become) := goodIn_app (goodIn_of _ (by decide +kernel)) ggX5_burns_X4_become
set_option maxRecDepth 20000 in
theorem ggX5_burns_X4_pass_ : GoodIn wsX5_burns wsX4_pass_ := goodIn_r _ [43, 44, 22, 30, 29, 27, 21, 45, 46, 47, 19, 48, 49, 50, 51, 52, 26, 25, 53, 54, 55, 56, 57, 58, 59, 60, 61, 23, 62, 63, 64, 65, 31, 66, 67, 68, 69, 28, 70, 71, 72, 73, 74, 75, 76, 77, 78, 79, 80, 81, 90, 91, 92, 93, 94, 95, 96, 97, 98, 99, 100, 101, 102, 82, 83, 84, 85, 86, 87, 88, 89] (by decide +kernel) (by decide +kernel)
set_option maxRecDepth 20000 in
theorem gX5_burns_X4_pass_ : GoodIn wsX5_burns (wsV RX5 113 RX4 yX4_pass_ wsX4_pass_) := goodIn_app (goodIn_of _ (by decide +kernel)) ggX5_burns_X4_pass_
theorem dX5_burns_0 : decode cX5_burns 0 = .ok (.aload_n 0, 1) := by decide +kernel
theorem dX5_burns_1 : decode cX5_burns 1 = .ok (.iconst 0, 1) := by decide +kernel
theorem dX5_burns_2 : decode cX5_burns 2 = .ok (.putfield 31, 3) := by decide +kernel
theorem dX5_burns_5 : decode cX5_burns 5 = .ok (.aload_n 0, 1) := by decide +kernel
theorem dX5_burns_6 : decode cX5_burns 6 = .ok (.iload_n 1, 1) := by decide +kernel
theorem dX5_burns_7 : decode cX5_burns 7 = .ok (.invokevirtual 70, 3) := by decide +kernel
theorem dX5_burns_10 : decode cX5_burns 10 = .ok (.ifCond .ne 9, 3) := by decide +kernel
theorem dX5_burns_13 : decode cX5_burns 13 = .ok (.aload_n 0, 1) := by decide +kernel
theorem dX5_burns_14 : decode cX5_burns 14 = .ok (.iconst 1, 1) := by decide +kernel
theorem dX5_burns_15 : decode cX5_burns 15 = .ok (.invokevirtual 46, 3) := by decide +kernel
theorem dX5_burns_18 : decode cX5_burns 18 = .ok (.ireturn, 1) := by decide +kernel
theorem dX5_burns_19 : decode cX5_burns 19 = .ok (.aload_n 0, 1) := by decide +kernel
theorem dX5_burns_20 : decode cX5_burns 20 = .ok (.getfield 28, 3) := by decide +kernel
theorem dX5_burns_23 : decode cX5_burns 23 = .ok (.aload_n 0, 1) := by decide +kernel
theorem dX5_burns_24 : decode cX5_burns 24 = .ok (.getfield 24, 3) := by decide +kernel
theorem dX5_burns_27 : decode cX5_burns 27 = .ok (.invokevirtual 116, 3) := by decide +kernel
theorem dX5_burns_30 : decode cX5_burns 30 = .ok (.iconst 0, 1) := by decide +kernel
theorem dX5_burns_31 : decode cX5_burns 31 = .ok (.istore_n 2, 1) := by decide +kernel
theorem dX5_burns_32 : decode cX5_burns 32 = .ok (.iload_n 2, 1) := by decide +kernel
theorem dX5_burns_33 : decode cX5_burns 33 = .ok (.bipush 60, 2) := by decide +kernel
theorem dX5_burns_35 : decode cX5_burns 35 = .ok (.if_icmp .gt 30, 3) := by decide +kernel
theorem dX5_burns_38 : decode cX5_burns 38 = .ok (.aload_n 0, 1) := by decide +kernel
theorem dX5_burns_39 : decode cX5_burns 39 = .ok (.getfield 28, 3) := by decide +kernel
theorem dX5_burns_42 : decode cX5_burns 42 = .ok (.getfield 79, 3) := by decide +kernel
theorem dX5_burns_45 : decode cX5_burns 45 = .ok (.iload_n 1, 1) := by decide +kernel
theorem dX5_burns_46 : decode cX5_burns 46 = .ok (.iaload, 1) := by decide +kernel
theorem dX5_burns_47 : decode cX5_burns 47 = .ok (.ifCond .ne 5, 3) := by decide +kernel
theorem dX5_burns_50 : decode cX5_burns 50 = .ok (.iload_n 2, 1) := by decide +kernel
theorem dX5_burns_51 : decode cX5_burns 51 = .ok (.ireturn, 1) := by decide +kernel
theorem dX5_burns_52 : decode cX5_burns 52 = .ok (.aload_n 0, 1) := by decide +kernel
theorem dX5_burns_53 : decode cX5_burns 53 = .ok (.getfield 28, 3) := by decide +kernel
theorem dX5_burns_56 : decode cX5_burns 56 = .ok (.invokevirtual 113, 3) := by decide +kernel
theorem dX5_burns_59 : decode cX5_burns 59 = .ok (.iinc 2 1, 3) := by decide +kernel
theorem dX5_burns_62 : decode cX5_burns 62 = .ok (.goto (-30), 3) := by decide +kernel
theorem dX5_burns_65 : decode cX5_burns 65 = .ok (.iconst (-1), 1) := by decide +kernel
theorem dX5_burns_66 : decode cX5_burns 66 = .ok (.ireturn, 1) := by decide +kernel
set_option maxRecDepth 20000 in
theorem ggX5_foresee_X5_isIn : GoodIn wsX5_foresee wsX5_isIn := goodIn_r _ [7] (by decide +kernel) (by decide +kernel)
set_option maxRecDepth 20000 in
theorem gX5_foresee_X5_isIn : GoodIn wsX5_foresee (va_wsS RX5 35 yX5_isIn wsX5_isIn) := goodIn_app (goodIn_of _ (by decide +kernel)) ggX5_foresee_X5_isIn
set_option maxRecDepth 20000 in
theorem ggX5_foresee_X5_no : GoodIn wsX5_foresee wsX5_no := goodIn_r _ [11, 1, 83, 84, 85, 86, 87, 88, 89, 90] (by decide +kernel) (by decide +kernel)
set_option maxRecDepth 20000 in
theorem gX5_foresee_X5_no : GoodIn wsX5_foresee (wsV RX5 46 RX5 yX5_no wsX5_no) := goodIn_app (goodIn_of _ (by decide +kernel)) ggX5_foresee_X5_no
set_option maxRecDepth 20000 in
theorem ggX5_foresee_X4_become : GoodIn wsX5_foresee wsX4_become := goodIn_r _ [16, 17, 18, 19, 20, 21, 22, 23, 24, 25, 26, 27, 28, 29, 30, 15, 31, 32, 33, 34, 35, 91, 92, 93, 94, 95, 96, 97, 98, 99, 100, 101, 102, 103] (by decide +kernel) (by decide +kernel)
set_option maxRecDepth 20000 in
theorem gX5_foresee_X4_become : GoodIn wsX5_foresee (wsV RX5 116 RX4 yX4_become wsX4_become) := goodIn_app (goodIn_of _ (by decide +kernel)) ggX5_foresee_X4_become
set_option maxRecDepth 20000 in
theorem ggX5_foresee_X4_pass_ : GoodIn wsX5_foresee wsX4_pass_ := goodIn_r _ [39, 40, 18, 26, 25, 23, 17, 41, 42, 43, 15, 44, 45, 46, 47, 48, 22, 21, 49, 50, 51, 52, 53, 54, 55, 56, 57, 19, 58, 59, 60, 61, 27, 62, 63, 64, 65, 24, 66, 67, 68, 69, 70, 71, 72, 73, 74, 75, 76, 77, 91, 92, 93, 94, 95, 96, 97, 98, 99, 100, 101, 102, 103, 83, 84, 85, 86, 87, 88, 89, 90] (by decide +kernel) (by decide +kernel)
set_option maxRecDepth 20000 in
theorem gX5_foresee_X4_pass_ : GoodIn wsX5_foresee (wsV RX5 113 RX4 yX4_pass_ wsX4_pass_) := goodIn_app (goodIn_of _ (by decide +kernel)) ggX5_foresee_X4_pass_
set_option maxRecDepth 20000 in
theorem ggX5_foresee_X4_counted : GoodIn wsX5_foresee wsX4_counted := goodIn_r _ [81, 82, 17, 18, 53, 26, 25, 20, 91, 92, 93, 94, 95, 96, 97, 98, 99, 100, 101, 102, 103, 83, 84, 85, 86, 87, 88, 89, 90] (by decide +kernel) (by decide +kernel)
set_option maxRecDepth 20000 in
theorem gX5_foresee_X4_counted : GoodIn wsX5_foresee (wsV RX5 110 RX4 yX4_counted wsX4_counted) := goodIn_app (goodIn_of _ (by decide +kernel)) ggX5_foresee_X4_counted
theorem dX5_foresee_0 : decode cX5_foresee 0 = .ok (.aload_n 0, 1) := by decide +kernel
theorem dX5_foresee_1 : decode cX5_foresee 1 = .ok (.iconst 0, 1) := by decide +kernel
theorem dX5_foresee_2 : decode cX5_foresee 2 = .ok (.putfield 31, 3) := by decide +kernel
theorem dX5_foresee_5 : decode cX5_foresee 5 = .ok (.iload_n 1, 1) := by decide +kernel
theorem dX5_foresee_6 : decode cX5_foresee 6 = .ok (.iconst 1, 1) := by decide +kernel
theorem dX5_foresee_7 : decode cX5_foresee 7 = .ok (.bipush 90, 2) := by decide +kernel
theorem dX5_foresee_9 : decode cX5_foresee 9 = .ok (.invokestatic 35, 3) := by decide +kernel
theorem dX5_foresee_12 : decode cX5_foresee 12 = .ok (.ifCond .ne 9, 3) := by decide +kernel
theorem dX5_foresee_15 : decode cX5_foresee 15 = .ok (.aload_n 0, 1) := by decide +kernel
theorem dX5_foresee_16 : decode cX5_foresee 16 = .ok (.iconst 1, 1) := by decide +kernel
theorem dX5_foresee_17 : decode cX5_foresee 17 = .ok (.invokevirtual 46, 3) := by decide +kernel
theorem dX5_foresee_20 : decode cX5_foresee 20 = .ok (.ireturn, 1) := by decide +kernel
theorem dX5_foresee_21 : decode cX5_foresee 21 = .ok (.iload_n 2, 1) := by decide +kernel
theorem dX5_foresee_22 : decode cX5_foresee 22 = .ok (.iconst 2, 1) := by decide +kernel
theorem dX5_foresee_23 : decode cX5_foresee 23 = .ok (.bipush 6, 2) := by decide +kernel
theorem dX5_foresee_25 : decode cX5_foresee 25 = .ok (.invokestatic 35, 3) := by decide +kernel
theorem dX5_foresee_28 : decode cX5_foresee 28 = .ok (.ifCond .ne 15, 3) := by decide +kernel
theorem dX5_foresee_31 : decode cX5_foresee 31 = .ok (.iload_n 2, 1) := by decide +kernel
theorem dX5_foresee_32 : decode cX5_foresee 32 = .ok (.bipush 9, 2) := by decide +kernel
theorem dX5_foresee_34 : decode cX5_foresee 34 = .ok (.if_icmp .eq 9, 3) := by decide +kernel
theorem dX5_foresee_37 : decode cX5_foresee 37 = .ok (.aload_n 0, 1) := by decide +kernel
theorem dX5_foresee_38 : decode cX5_foresee 38 = .ok (.iconst 2, 1) := by decide +kernel
theorem dX5_foresee_39 : decode cX5_foresee 39 = .ok (.invokevirtual 46, 3) := by decide +kernel
theorem dX5_foresee_42 : decode cX5_foresee 42 = .ok (.ireturn, 1) := by decide +kernel
theorem dX5_foresee_43 : decode cX5_foresee 43 = .ok (.aload_n 0, 1) := by decide +kernel
theorem dX5_foresee_44 : decode cX5_foresee 44 = .ok (.getfield 28, 3) := by decide +kernel
theorem dX5_foresee_47 : decode cX5_foresee 47 = .ok (.aload_n 0, 1) := by decide +kernel
theorem dX5_foresee_48 : decode cX5_foresee 48 = .ok (.getfield 24, 3) := by decide +kernel
theorem dX5_foresee_51 : decode cX5_foresee 51 = .ok (.invokevirtual 116, 3) := by decide +kernel
theorem dX5_foresee_54 : decode cX5_foresee 54 = .ok (.iconst 0, 1) := by decide +kernel
theorem dX5_foresee_55 : decode cX5_foresee 55 = .ok (.istore_n 3, 1) := by decide +kernel
theorem dX5_foresee_56 : decode cX5_foresee 56 = .ok (.iload_n 3, 1) := by decide +kernel
theorem dX5_foresee_57 : decode cX5_foresee 57 = .ok (.iload_n 1, 1) := by decide +kernel
theorem dX5_foresee_58 : decode cX5_foresee 58 = .ok (.if_icmp .ge 16, 3) := by decide +kernel
theorem dX5_foresee_61 : decode cX5_foresee 61 = .ok (.aload_n 0, 1) := by decide +kernel
theorem dX5_foresee_62 : decode cX5_foresee 62 = .ok (.getfield 28, 3) := by decide +kernel
theorem dX5_foresee_65 : decode cX5_foresee 65 = .ok (.invokevirtual 113, 3) := by decide +kernel
theorem dX5_foresee_68 : decode cX5_foresee 68 = .ok (.iinc 3 1, 3) := by decide +kernel
theorem dX5_foresee_71 : decode cX5_foresee 71 = .ok (.goto (-15), 3) := by decide +kernel
theorem dX5_foresee_74 : decode cX5_foresee 74 = .ok (.aload_n 0, 1) := by decide +kernel
theorem dX5_foresee_75 : decode cX5_foresee 75 = .ok (.getfield 28, 3) := by decide +kernel
theorem dX5_foresee_78 : decode cX5_foresee 78 = .ok (.iload_n 2, 1) := by decide +kernel
theorem dX5_foresee_79 : decode cX5_foresee 79 = .ok (.invokevirtual 110, 3) := by decide +kernel
theorem dX5_foresee_82 : decode cX5_foresee 82 = .ok (.ireturn, 1) := by decide +kernel
set_option maxRecDepth 20000 in
theorem ggX5_comes_X4_become : GoodIn wsX5_comes wsX4_become := goodIn_r _ [7, 8, 9, 10, 11, 12, 13, 14, 15, 16, 17, 18, 19, 20, 21, 6, 22, 23, 24, 25, 26, 81, 82, 83, 84, 85, 86, 87, 88, 89, 90, 91, 92, 93] (by decide +kernel) (by decide +kernel)
set_option maxRecDepth 20000 in
theorem gX5_comes_X4_become : GoodIn wsX5_comes (wsV RX5 116 RX4 yX4_become wsX4_become) := goodIn_app (goodIn_of _ (by decide +kernel)) ggX5_comes_X4_become
set_option maxRecDepth 20000 in
theorem ggX5_comes_X4_launch : GoodIn wsX5_comes wsX4_launch := goodIn_r _ [30, 10, 9, 11, 12, 13, 14, 15, 16, 17, 18, 81, 82, 83, 84, 85, 86, 87, 88, 89, 90, 91, 92, 93] (by decide +kernel) (by decide +kernel)
set_option maxRecDepth 20000 in
theorem gX5_comes_X4_launch : GoodIn wsX5_comes (wsV RX5 66 RX4 yX4_launch wsX4_launch) := goodIn_app (goodIn_of _ (by decide +kernel)) ggX5_comes_X4_launch
set_option maxRecDepth 20000 in
theorem ggX5_comes_X4_pass_ : GoodIn wsX5_comes wsX4_pass_ := goodIn_r _ [34, 35, 9, 17, 16, 14, 8, 36, 37, 38, 6, 39, 40, 41, 42, 43, 13, 12, 44, 45, 46, 47, 48, 49, 50, 51, 52, 10, 53, 54, 55, 56, 18, 57, 58, 59, 60, 15, 61, 62, 63, 64, 65, 66, 67, 68, 69, 70, 71, 72, 81, 82, 83, 84, 85, 86, 87, 88, 89, 90, 91, 92, 93, 73, 74, 75, 76, 77, 78, 79, 80] (by decide +kernel) (by decide +kernel)
set_option maxRecDepth 20000 in
theorem gX5_comes_X4_pass_ : GoodIn wsX5_comes (wsV RX5 113 RX4 yX4_pass_ wsX4_pass_) := goodIn_app (goodIn_of _ (by decide +kernel)) ggX5_comes_X4_pass_
theorem dX5_comes_0 : decode cX5_comes 0 = .ok (.aload_n 0, 1) := by decide +kernel
theorem dX5_comes_1 : decode cX5_comes 1 = .ok (.getfield 28, 3) := by decide +kernel
theorem dX5_comes_4 : decode cX5_comes 4 = .ok (.aload_n 0, 1) := by decide +kernel
theorem dX5_comes_5 : decode cX5_comes 5 = .ok (.getfield 24, 3) := by decide +kernel
theorem dX5_comes_8 : decode cX5_comes 8 = .ok (.invokevirtual 116, 3) := by decide +kernel
theorem dX5_comes_11 : decode cX5_comes 11 = .ok (.aload_n 0, 1) := by decide +kernel
theorem dX5_comes_12 : decode cX5_comes 12 = .ok (.getfield 28, 3) := by decide +kernel
theorem dX5_comes_15 : decode cX5_comes 15 = .ok (.iload_n 1, 1) := by decide +kernel
theorem dX5_comes_16 : decode cX5_comes 16 = .ok (.iconst 0, 1) := by decide +kernel
theorem dX5_comes_17 : decode cX5_comes 17 = .ok (.iload_n 2, 1) := by decide +kernel
theorem dX5_comes_18 : decode cX5_comes 18 = .ok (.iconst 0, 1) := by decide +kernel
theorem dX5_comes_19 : decode cX5_comes 19 = .ok (.invokevirtual 66, 3) := by decide +kernel
theorem dX5_comes_22 : decode cX5_comes 22 = .ok (.istore_n 3, 1) := by decide +kernel
theorem dX5_comes_23 : decode cX5_comes 23 = .ok (.iconst 1, 1) := by decide +kernel
theorem dX5_comes_24 : decode cX5_comes 24 = .ok (.istore 4, 2) := by decide +kernel
theorem dX5_comes_26 : decode cX5_comes 26 = .ok (.iload 4, 2) := by decide +kernel
theorem dX5_comes_28 : decode cX5_comes 28 = .ok (.bipush 60, 2) := by decide +kernel
theorem dX5_comes_30 : decode cX5_comes 30 = .ok (.if_icmp .gt 45, 3) := by decide +kernel
theorem dX5_comes_33 : decode cX5_comes 33 = .ok (.aload_n 0, 1) := by decide +kernel
theorem dX5_comes_34 : decode cX5_comes 34 = .ok (.getfield 28, 3) := by decide +kernel
theorem dX5_comes_37 : decode cX5_comes 37 = .ok (.invokevirtual 113, 3) := by decide +kernel
theorem dX5_comes_40 : decode cX5_comes 40 = .ok (.aload_n 0, 1) := by decide +kernel
theorem dX5_comes_41 : decode cX5_comes 41 = .ok (.getfield 28, 3) := by decide +kernel
theorem dX5_comes_44 : decode cX5_comes 44 = .ok (.getfield 73, 3) := by decide +kernel
theorem dX5_comes_47 : decode cX5_comes 47 = .ok (.iload_n 3, 1) := by decide +kernel
theorem dX5_comes_48 : decode cX5_comes 48 = .ok (.iaload, 1) := by decide +kernel
theorem dX5_comes_49 : decode cX5_comes 49 = .ok (.iconst 1, 1) := by decide +kernel
theorem dX5_comes_50 : decode cX5_comes 50 = .ok (.if_icmp .ne 19, 3) := by decide +kernel
theorem dX5_comes_53 : decode cX5_comes 53 = .ok (.aload_n 0, 1) := by decide +kernel
theorem dX5_comes_54 : decode cX5_comes 54 = .ok (.getfield 28, 3) := by decide +kernel
theorem dX5_comes_57 : decode cX5_comes 57 = .ok (.getfield 79, 3) := by decide +kernel
theorem dX5_comes_60 : decode cX5_comes 60 = .ok (.iload_n 3, 1) := by decide +kernel
theorem dX5_comes_61 : decode cX5_comes 61 = .ok (.iaload, 1) := by decide +kernel
theorem dX5_comes_62 : decode cX5_comes 62 = .ok (.iconst 1, 1) := by decide +kernel
theorem dX5_comes_63 : decode cX5_comes 63 = .ok (.if_icmp .ne 6, 3) := by decide +kernel
theorem dX5_comes_66 : decode cX5_comes 66 = .ok (.iload 4, 2) := by decide +kernel
theorem dX5_comes_68 : decode cX5_comes 68 = .ok (.ireturn, 1) := by decide +kernel
theorem dX5_comes_69 : decode cX5_comes 69 = .ok (.iinc 4 1, 3) := by decide +kernel
theorem dX5_comes_72 : decode cX5_comes 72 = .ok (.goto (-46), 3) := by decide +kernel
theorem dX5_comes_75 : decode cX5_comes 75 = .ok (.bipush 61, 2) := by decide +kernel
theorem dX5_comes_77 : decode cX5_comes 77 = .ok (.ireturn, 1) := by decide +kernel
set_option maxRecDepth 20000 in
theorem ggX5_advise_X5_isIn : GoodIn wsX5_advise wsX5_isIn := goodIn_r _ [5] (by decide +kernel) (by decide +kernel)
set_option maxRecDepth 20000 in
theorem gX5_advise_X5_isIn : GoodIn wsX5_advise (va_wsS RX5 35 yX5_isIn wsX5_isIn) := goodIn_app (goodIn_of _ (by decide +kernel)) ggX5_advise_X5_isIn
set_option maxRecDepth 20000 in
theorem ggX5_advise_X5_no : GoodIn wsX5_advise wsX5_no := goodIn_r _ [9, 1, 86, 87, 88, 89, 90, 91, 92, 93] (by decide +kernel) (by decide +kernel)
set_option maxRecDepth 20000 in
theorem gX5_advise_X5_no : GoodIn wsX5_advise (wsV RX5 46 RX5 yX5_no wsX5_no) := goodIn_app (goodIn_of _ (by decide +kernel)) ggX5_advise_X5_no
set_option maxRecDepth 20000 in
theorem ggX5_advise_X5_comes : GoodIn wsX5_advise wsX5_comes := goodIn_r _ [13, 14, 15, 16, 17, 18, 19, 20, 21, 22, 23, 24, 25, 26, 27, 28, 29, 30, 31, 32, 33, 34, 35, 36, 37, 38, 39, 40, 41, 42, 43, 44, 45, 46, 47, 48, 49, 50, 51, 52, 53, 54, 55, 56, 57, 58, 59, 60, 61, 62, 63, 64, 65, 66, 67, 68, 69, 70, 71, 72, 73, 74, 75, 76, 77, 78, 79, 80, 81, 82, 83, 84, 85, 86, 87, 88, 89, 90, 91, 92, 93, 94, 95, 96, 97, 98, 99, 100, 101, 102, 103, 104, 105, 106] (by decide +kernel) (by decide +kernel)
set_option maxRecDepth 20000 in
theorem gX5_advise_X5_comes : GoodIn wsX5_advise (wsV RX5 120 RX5 yX5_comes wsX5_comes) := goodIn_app (goodIn_of _ (by decide +kernel)) ggX5_advise_X5_comes
theorem dX5_advise_0 : decode cX5_advise 0 = .ok (.aload_n 0, 1) := by decide +kernel
theorem dX5_advise_1 : decode cX5_advise 1 = .ok (.iconst 0, 1) := by decide +kernel
theorem dX5_advise_2 : decode cX5_advise 2 = .ok (.putfield 31, 3) := by decide +kernel
theorem dX5_advise_5 : decode cX5_advise 5 = .ok (.iload_n 1, 1) := by decide +kernel
theorem dX5_advise_6 : decode cX5_advise 6 = .ok (.iconst 0, 1) := by decide +kernel
theorem dX5_advise_7 : decode cX5_advise 7 = .ok (.iconst 2, 1) := by decide +kernel
theorem dX5_advise_8 : decode cX5_advise 8 = .ok (.invokestatic 35, 3) := by decide +kernel
theorem dX5_advise_11 : decode cX5_advise 11 = .ok (.ifCond .ne 9, 3) := by decide +kernel
theorem dX5_advise_14 : decode cX5_advise 14 = .ok (.aload_n 0, 1) := by decide +kernel
theorem dX5_advise_15 : decode cX5_advise 15 = .ok (.iconst 1, 1) := by decide +kernel
theorem dX5_advise_16 : decode cX5_advise 16 = .ok (.invokevirtual 46, 3) := by decide +kernel
theorem dX5_advise_19 : decode cX5_advise 19 = .ok (.ireturn, 1) := by decide +kernel
theorem dX5_advise_20 : decode cX5_advise 20 = .ok (.iconst (-1), 1) := by decide +kernel
theorem dX5_advise_21 : decode cX5_advise 21 = .ok (.istore_n 2, 1) := by decide +kernel
theorem dX5_advise_22 : decode cX5_advise 22 = .ok (.bipush 61, 2) := by decide +kernel
theorem dX5_advise_24 : decode cX5_advise 24 = .ok (.istore_n 3, 1) := by decide +kernel
theorem dX5_advise_25 : decode cX5_advise 25 = .ok (.iconst 0, 1) := by decide +kernel
theorem dX5_advise_26 : decode cX5_advise 26 = .ok (.istore 4, 2) := by decide +kernel
theorem dX5_advise_28 : decode cX5_advise 28 = .ok (.iload 4, 2) := by decide +kernel
theorem dX5_advise_30 : decode cX5_advise 30 = .ok (.iconst 3, 1) := by decide +kernel
theorem dX5_advise_31 : decode cX5_advise 31 = .ok (.if_icmp .ge 33, 3) := by decide +kernel
theorem dX5_advise_34 : decode cX5_advise 34 = .ok (.aload_n 0, 1) := by decide +kernel
theorem dX5_advise_35 : decode cX5_advise 35 = .ok (.iload_n 1, 1) := by decide +kernel
theorem dX5_advise_36 : decode cX5_advise 36 = .ok (.iload 4, 2) := by decide +kernel
theorem dX5_advise_38 : decode cX5_advise 38 = .ok (.invokevirtual 120, 3) := by decide +kernel
theorem dX5_advise_41 : decode cX5_advise 41 = .ok (.istore 5, 2) := by decide +kernel
theorem dX5_advise_43 : decode cX5_advise 43 = .ok (.iload 5, 2) := by decide +kernel
theorem dX5_advise_45 : decode cX5_advise 45 = .ok (.iload_n 3, 1) := by decide +kernel
theorem dX5_advise_46 : decode cX5_advise 46 = .ok (.if_icmp .lt 6, 3) := by decide +kernel
theorem dX5_advise_49 : decode cX5_advise 49 = .ok (.goto 9, 3) := by decide +kernel
theorem dX5_advise_52 : decode cX5_advise 52 = .ok (.iload 5, 2) := by decide +kernel
theorem dX5_advise_54 : decode cX5_advise 54 = .ok (.istore_n 3, 1) := by decide +kernel
theorem dX5_advise_55 : decode cX5_advise 55 = .ok (.iload 4, 2) := by decide +kernel
theorem dX5_advise_57 : decode cX5_advise 57 = .ok (.istore_n 2, 1) := by decide +kernel
theorem dX5_advise_58 : decode cX5_advise 58 = .ok (.iinc 4 1, 3) := by decide +kernel
theorem dX5_advise_61 : decode cX5_advise 61 = .ok (.goto (-33), 3) := by decide +kernel
theorem dX5_advise_64 : decode cX5_advise 64 = .ok (.iload_n 2, 1) := by decide +kernel
theorem dX5_advise_65 : decode cX5_advise 65 = .ok (.ireturn, 1) := by decide +kernel
set_option maxRecDepth 20000 in
theorem ggX5_mean_X4_counted : GoodIn wsX5_mean wsX4_counted := goodIn_r _ [7, 8, 9, 10, 11, 12, 13, 14, 23, 24, 25, 26, 27, 28, 29, 30, 31, 32, 33, 34, 35, 15, 16, 17, 18, 19, 20, 21, 22] (by decide +kernel) (by decide +kernel)
set_option maxRecDepth 20000 in
theorem gX5_mean_X4_counted : GoodIn wsX5_mean (wsV RX5 110 RX4 yX4_counted wsX4_counted) := goodIn_app (goodIn_of _ (by decide +kernel)) ggX5_mean_X4_counted
theorem dX5_mean_0 : decode cX5_mean 0 = .ok (.aload_n 0, 1) := by decide +kernel
theorem dX5_mean_1 : decode cX5_mean 1 = .ok (.iconst 0, 1) := by decide +kernel
theorem dX5_mean_2 : decode cX5_mean 2 = .ok (.putfield 31, 3) := by decide +kernel
theorem dX5_mean_5 : decode cX5_mean 5 = .ok (.aload_n 0, 1) := by decide +kernel
theorem dX5_mean_6 : decode cX5_mean 6 = .ok (.getfield 24, 3) := by decide +kernel
theorem dX5_mean_9 : decode cX5_mean 9 = .ok (.iconst 2, 1) := by decide +kernel
theorem dX5_mean_10 : decode cX5_mean 10 = .ok (.invokevirtual 110, 3) := by decide +kernel
theorem dX5_mean_13 : decode cX5_mean 13 = .ok (.istore_n 1, 1) := by decide +kernel
theorem dX5_mean_14 : decode cX5_mean 14 = .ok (.iconst 0, 1) := by decide +kernel
theorem dX5_mean_15 : decode cX5_mean 15 = .ok (.istore_n 2, 1) := by decide +kernel
theorem dX5_mean_16 : decode cX5_mean 16 = .ok (.iconst 0, 1) := by decide +kernel
theorem dX5_mean_17 : decode cX5_mean 17 = .ok (.istore_n 3, 1) := by decide +kernel
theorem dX5_mean_18 : decode cX5_mean 18 = .ok (.iload_n 3, 1) := by decide +kernel
theorem dX5_mean_19 : decode cX5_mean 19 = .ok (.aload_n 0, 1) := by decide +kernel
theorem dX5_mean_20 : decode cX5_mean 20 = .ok (.getfield 24, 3) := by decide +kernel
theorem dX5_mean_23 : decode cX5_mean 23 = .ok (.getfield 39, 3) := by decide +kernel
theorem dX5_mean_26 : decode cX5_mean 26 = .ok (.if_icmp .ge 37, 3) := by decide +kernel
theorem dX5_mean_29 : decode cX5_mean 29 = .ok (.iload_n 2, 1) := by decide +kernel
theorem dX5_mean_30 : decode cX5_mean 30 = .ok (.aload_n 0, 1) := by decide +kernel
theorem dX5_mean_31 : decode cX5_mean 31 = .ok (.getfield 24, 3) := by decide +kernel
theorem dX5_mean_34 : decode cX5_mean 34 = .ok (.getfield 73, 3) := by decide +kernel
theorem dX5_mean_37 : decode cX5_mean 37 = .ok (.iload_n 3, 1) := by decide +kernel
theorem dX5_mean_38 : decode cX5_mean 38 = .ok (.iaload, 1) := by decide +kernel
theorem dX5_mean_39 : decode cX5_mean 39 = .ok (.ifCond .ne 15, 3) := by decide +kernel
theorem dX5_mean_42 : decode cX5_mean 42 = .ok (.aload_n 0, 1) := by decide +kernel
theorem dX5_mean_43 : decode cX5_mean 43 = .ok (.getfield 24, 3) := by decide +kernel
theorem dX5_mean_46 : decode cX5_mean 46 = .ok (.getfield 94, 3) := by decide +kernel
theorem dX5_mean_49 : decode cX5_mean 49 = .ok (.iload_n 3, 1) := by decide +kernel
theorem dX5_mean_50 : decode cX5_mean 50 = .ok (.iaload, 1) := by decide +kernel
theorem dX5_mean_51 : decode cX5_mean 51 = .ok (.goto 4, 3) := by decide +kernel
theorem dX5_mean_54 : decode cX5_mean 54 = .ok (.iconst 0, 1) := by decide +kernel
theorem dX5_mean_55 : decode cX5_mean 55 = .ok (.iadd, 1) := by decide +kernel
theorem dX5_mean_56 : decode cX5_mean 56 = .ok (.istore_n 2, 1) := by decide +kernel
theorem dX5_mean_57 : decode cX5_mean 57 = .ok (.iinc 3 1, 3) := by decide +kernel
theorem dX5_mean_60 : decode cX5_mean 60 = .ok (.goto (-42), 3) := by decide +kernel
theorem dX5_mean_63 : decode cX5_mean 63 = .ok (.iload_n 1, 1) := by decide +kernel
theorem dX5_mean_64 : decode cX5_mean 64 = .ok (.ifCond .ne 7, 3) := by decide +kernel
theorem dX5_mean_67 : decode cX5_mean 67 = .ok (.dconst 0, 1) := by decide +kernel
theorem dX5_mean_68 : decode cX5_mean 68 = .ok (.goto 8, 3) := by decide +kernel
theorem dX5_mean_71 : decode cX5_mean 71 = .ok (.iload_n 2, 1) := by decide +kernel
theorem dX5_mean_72 : decode cX5_mean 72 = .ok (.i2d, 1) := by decide +kernel
theorem dX5_mean_73 : decode cX5_mean 73 = .ok (.iload_n 1, 1) := by decide +kernel
theorem dX5_mean_74 : decode cX5_mean 74 = .ok (.i2d, 1) := by decide +kernel
theorem dX5_mean_75 : decode cX5_mean 75 = .ok (.ddiv, 1) := by decide +kernel
theorem dX5_mean_76 : decode cX5_mean 76 = .ok (.dreturn, 1) := by decide +kernel
set_option maxRecDepth 20000 in
theorem ggX5_digest_X4_counted : GoodIn wsX5_digest wsX4_counted := goodIn_r _ [10, 11, 12, 13, 14, 15, 16, 17, 47, 48, 49, 50, 51, 52, 53, 54, 55, 56, 57, 58, 59, 39, 40, 41, 42, 43, 44, 45, 46] (by decide +kernel) (by decide +kernel)
set_option maxRecDepth 20000 in
theorem gX5_digest_X4_counted : GoodIn wsX5_digest (wsV RX5 110 RX4 yX4_counted wsX4_counted) := goodIn_app (goodIn_of _ (by decide +kernel)) ggX5_digest_X4_counted
set_option maxRecDepth 20000 in
theorem ggX5_digest_X5_riverTold : GoodIn wsX5_digest wsX5_riverTold := goodIn_r _ [22, 4, 23, 24, 25, 26, 27, 9, 28, 13, 15, 29, 30, 39, 40, 41, 42, 43, 44, 45, 46, 47, 48, 49, 50, 51, 52, 53, 54, 55, 56, 57, 58, 59] (by decide +kernel) (by decide +kernel)
set_option maxRecDepth 20000 in
theorem gX5_digest_X5_riverTold : GoodIn wsX5_digest (wsV RX5 63 RX5 yX5_riverTold wsX5_riverTold) := goodIn_app (goodIn_of _ (by decide +kernel)) ggX5_digest_X5_riverTold
set_option maxRecDepth 20000 in
theorem ggX5_digest_X5_lanternTold : GoodIn wsX5_digest wsX5_lanternTold := goodIn_r _ [34, 11, 4, 39, 40, 41, 42, 43, 44, 45, 46, 47, 48, 49, 50, 51, 52, 53, 54, 55, 56, 57, 58, 59] (by decide +kernel) (by decide +kernel)
set_option maxRecDepth 20000 in
theorem gX5_digest_X5_lanternTold : GoodIn wsX5_digest (wsV RX5 103 RX5 yX5_lanternTold wsX5_lanternTold) := goodIn_app (goodIn_of _ (by decide +kernel)) ggX5_digest_X5_lanternTold
set_option maxRecDepth 20000 in
theorem ggX5_digest_X5_nextOf : GoodIn wsX5_digest wsX5_nextOf := goodIn_r _ [38, 4, 23, 39, 40, 41, 42, 43, 44, 45, 46, 47, 48, 49, 50, 51, 52, 53, 54, 55, 56, 57, 58, 59] (by decide +kernel) (by decide +kernel)
set_option maxRecDepth 20000 in
theorem gX5_digest_X5_nextOf : GoodIn wsX5_digest (wsV RX5 107 RX5 yX5_nextOf wsX5_nextOf) := goodIn_app (goodIn_of _ (by decide +kernel)) ggX5_digest_X5_nextOf
theorem dX5_digest_0 : decode cX5_digest 0 = .ok (.aload_n 0, 1) := by decide +kernel
theorem dX5_digest_1 : decode cX5_digest 1 = .ok (.iconst 0, 1) := by decide +kernel
theorem dX5_digest_2 : decode cX5_digest 2 = .ok (.putfield 31, 3) := by decide +kernel
theorem dX5_digest_5 : decode cX5_digest 5 = .ok (.ldc2_w 123, 3) := by decide +kernel
theorem dX5_digest_8 : decode cX5_digest 8 = .ok (.lstore_n 1, 1) := by decide +kernel
theorem dX5_digest_9 : decode cX5_digest 9 = .ok (.iconst 0, 1) := by decide +kernel
theorem dX5_digest_10 : decode cX5_digest 10 = .ok (.istore_n 3, 1) := by decide +kernel
theorem dX5_digest_11 : decode cX5_digest 11 = .ok (.iload_n 3, 1) := by decide +kernel
theorem dX5_digest_12 : decode cX5_digest 12 = .ok (.bipush 9, 2) := by decide +kernel
theorem dX5_digest_14 : decode cX5_digest 14 = .ok (.if_icmp .gt 25, 3) := by decide +kernel
theorem dX5_digest_17 : decode cX5_digest 17 = .ok (.lload_n 1, 1) := by decide +kernel
theorem dX5_digest_18 : decode cX5_digest 18 = .ok (.ldc2_w 125, 3) := by decide +kernel
theorem dX5_digest_21 : decode cX5_digest 21 = .ok (.lmul, 1) := by decide +kernel
theorem dX5_digest_22 : decode cX5_digest 22 = .ok (.aload_n 0, 1) := by decide +kernel
theorem dX5_digest_23 : decode cX5_digest 23 = .ok (.getfield 24, 3) := by decide +kernel
theorem dX5_digest_26 : decode cX5_digest 26 = .ok (.iload_n 3, 1) := by decide +kernel
theorem dX5_digest_27 : decode cX5_digest 27 = .ok (.invokevirtual 110, 3) := by decide +kernel
theorem dX5_digest_30 : decode cX5_digest 30 = .ok (.i2l, 1) := by decide +kernel
theorem dX5_digest_31 : decode cX5_digest 31 = .ok (.ladd, 1) := by decide +kernel
theorem dX5_digest_32 : decode cX5_digest 32 = .ok (.lstore_n 1, 1) := by decide +kernel
theorem dX5_digest_33 : decode cX5_digest 33 = .ok (.iinc 3 1, 3) := by decide +kernel
theorem dX5_digest_36 : decode cX5_digest 36 = .ok (.goto (-25), 3) := by decide +kernel
theorem dX5_digest_39 : decode cX5_digest 39 = .ok (.aload_n 0, 1) := by decide +kernel
theorem dX5_digest_40 : decode cX5_digest 40 = .ok (.getfield 7, 3) := by decide +kernel
theorem dX5_digest_43 : decode cX5_digest 43 = .ok (.astore_n 3, 1) := by decide +kernel
theorem dX5_digest_44 : decode cX5_digest 44 = .ok (.aload_n 3, 1) := by decide +kernel
theorem dX5_digest_45 : decode cX5_digest 45 = .ok (.arraylength, 1) := by decide +kernel
theorem dX5_digest_46 : decode cX5_digest 46 = .ok (.istore 4, 2) := by decide +kernel
theorem dX5_digest_48 : decode cX5_digest 48 = .ok (.iconst 0, 1) := by decide +kernel
theorem dX5_digest_49 : decode cX5_digest 49 = .ok (.istore 5, 2) := by decide +kernel
theorem dX5_digest_51 : decode cX5_digest 51 = .ok (.iload 5, 2) := by decide +kernel
theorem dX5_digest_53 : decode cX5_digest 53 = .ok (.iload 4, 2) := by decide +kernel
theorem dX5_digest_55 : decode cX5_digest 55 = .ok (.if_icmp .ge 25, 3) := by decide +kernel
theorem dX5_digest_58 : decode cX5_digest 58 = .ok (.aload_n 3, 1) := by decide +kernel
theorem dX5_digest_59 : decode cX5_digest 59 = .ok (.iload 5, 2) := by decide +kernel
theorem dX5_digest_61 : decode cX5_digest 61 = .ok (.iaload, 1) := by decide +kernel
theorem dX5_digest_62 : decode cX5_digest 62 = .ok (.istore 6, 2) := by decide +kernel
theorem dX5_digest_64 : decode cX5_digest 64 = .ok (.lload_n 1, 1) := by decide +kernel
theorem dX5_digest_65 : decode cX5_digest 65 = .ok (.ldc2_w 125, 3) := by decide +kernel
theorem dX5_digest_68 : decode cX5_digest 68 = .ok (.lmul, 1) := by decide +kernel
theorem dX5_digest_69 : decode cX5_digest 69 = .ok (.iload 6, 2) := by decide +kernel
theorem dX5_digest_71 : decode cX5_digest 71 = .ok (.i2l, 1) := by decide +kernel
theorem dX5_digest_72 : decode cX5_digest 72 = .ok (.ladd, 1) := by decide +kernel
theorem dX5_digest_73 : decode cX5_digest 73 = .ok (.lstore_n 1, 1) := by decide +kernel
theorem dX5_digest_74 : decode cX5_digest 74 = .ok (.iinc 5 1, 3) := by decide +kernel
theorem dX5_digest_77 : decode cX5_digest 77 = .ok (.goto (-26), 3) := by decide +kernel
theorem dX5_digest_80 : decode cX5_digest 80 = .ok (.iconst 0, 1) := by decide +kernel
theorem dX5_digest_81 : decode cX5_digest 81 = .ok (.istore_n 3, 1) := by decide +kernel
theorem dX5_digest_82 : decode cX5_digest 82 = .ok (.iload_n 3, 1) := by decide +kernel
theorem dX5_digest_83 : decode cX5_digest 83 = .ok (.bipush 60, 2) := by decide +kernel
theorem dX5_digest_85 : decode cX5_digest 85 = .ok (.if_icmp .ge 56, 3) := by decide +kernel
theorem dX5_digest_88 : decode cX5_digest 88 = .ok (.iconst 0, 1) := by decide +kernel
theorem dX5_digest_89 : decode cX5_digest 89 = .ok (.istore 4, 2) := by decide +kernel
theorem dX5_digest_91 : decode cX5_digest 91 = .ok (.iload 4, 2) := by decide +kernel
theorem dX5_digest_93 : decode cX5_digest 93 = .ok (.iconst 3, 1) := by decide +kernel
theorem dX5_digest_94 : decode cX5_digest 94 = .ok (.if_icmp .ge 41, 3) := by decide +kernel
theorem dX5_digest_97 : decode cX5_digest 97 = .ok (.iconst 0, 1) := by decide +kernel
theorem dX5_digest_98 : decode cX5_digest 98 = .ok (.istore 5, 2) := by decide +kernel
theorem dX5_digest_100 : decode cX5_digest 100 = .ok (.iload 5, 2) := by decide +kernel
theorem dX5_digest_102 : decode cX5_digest 102 = .ok (.iconst 3, 1) := by decide +kernel
theorem dX5_digest_103 : decode cX5_digest 103 = .ok (.if_icmp .gt 26, 3) := by decide +kernel
theorem dX5_digest_106 : decode cX5_digest 106 = .ok (.lload_n 1, 1) := by decide +kernel
theorem dX5_digest_107 : decode cX5_digest 107 = .ok (.ldc2_w 125, 3) := by decide +kernel
theorem dX5_digest_110 : decode cX5_digest 110 = .ok (.lmul, 1) := by decide +kernel
theorem dX5_digest_111 : decode cX5_digest 111 = .ok (.aload_n 0, 1) := by decide +kernel
theorem dX5_digest_112 : decode cX5_digest 112 = .ok (.iload 4, 2) := by decide +kernel
theorem dX5_digest_114 : decode cX5_digest 114 = .ok (.iload_n 3, 1) := by decide +kernel
theorem dX5_digest_115 : decode cX5_digest 115 = .ok (.iload 5, 2) := by decide +kernel
theorem dX5_digest_117 : decode cX5_digest 117 = .ok (.invokevirtual 63, 3) := by decide +kernel
theorem dX5_digest_120 : decode cX5_digest 120 = .ok (.i2l, 1) := by decide +kernel
theorem dX5_digest_121 : decode cX5_digest 121 = .ok (.ladd, 1) := by decide +kernel
theorem dX5_digest_122 : decode cX5_digest 122 = .ok (.lstore_n 1, 1) := by decide +kernel
theorem dX5_digest_123 : decode cX5_digest 123 = .ok (.iinc 5 1, 3) := by decide +kernel
theorem dX5_digest_126 : decode cX5_digest 126 = .ok (.goto (-26), 3) := by decide +kernel
theorem dX5_digest_129 : decode cX5_digest 129 = .ok (.iinc 4 1, 3) := by decide +kernel
theorem dX5_digest_132 : decode cX5_digest 132 = .ok (.goto (-41), 3) := by decide +kernel
theorem dX5_digest_135 : decode cX5_digest 135 = .ok (.iinc 3 1, 3) := by decide +kernel
theorem dX5_digest_138 : decode cX5_digest 138 = .ok (.goto (-56), 3) := by decide +kernel
theorem dX5_digest_141 : decode cX5_digest 141 = .ok (.iconst 0, 1) := by decide +kernel
theorem dX5_digest_142 : decode cX5_digest 142 = .ok (.istore_n 3, 1) := by decide +kernel
theorem dX5_digest_143 : decode cX5_digest 143 = .ok (.iload_n 3, 1) := by decide +kernel
theorem dX5_digest_144 : decode cX5_digest 144 = .ok (.aload_n 0, 1) := by decide +kernel
theorem dX5_digest_145 : decode cX5_digest 145 = .ok (.getfield 24, 3) := by decide +kernel
theorem dX5_digest_148 : decode cX5_digest 148 = .ok (.getfield 39, 3) := by decide +kernel
theorem dX5_digest_151 : decode cX5_digest 151 = .ok (.if_icmp .ge 53, 3) := by decide +kernel
theorem dX5_digest_154 : decode cX5_digest 154 = .ok (.iconst 0, 1) := by decide +kernel
theorem dX5_digest_155 : decode cX5_digest 155 = .ok (.istore 4, 2) := by decide +kernel
theorem dX5_digest_157 : decode cX5_digest 157 = .ok (.iload 4, 2) := by decide +kernel
theorem dX5_digest_159 : decode cX5_digest 159 = .ok (.bipush 8, 2) := by decide +kernel
theorem dX5_digest_161 : decode cX5_digest 161 = .ok (.if_icmp .gt 24, 3) := by decide +kernel
theorem dX5_digest_164 : decode cX5_digest 164 = .ok (.lload_n 1, 1) := by decide +kernel
theorem dX5_digest_165 : decode cX5_digest 165 = .ok (.ldc2_w 125, 3) := by decide +kernel
theorem dX5_digest_168 : decode cX5_digest 168 = .ok (.lmul, 1) := by decide +kernel
theorem dX5_digest_169 : decode cX5_digest 169 = .ok (.aload_n 0, 1) := by decide +kernel
theorem dX5_digest_170 : decode cX5_digest 170 = .ok (.iload_n 3, 1) := by decide +kernel
theorem dX5_digest_171 : decode cX5_digest 171 = .ok (.iload 4, 2) := by decide +kernel
theorem dX5_digest_173 : decode cX5_digest 173 = .ok (.invokevirtual 103, 3) := by decide +kernel
theorem dX5_digest_176 : decode cX5_digest 176 = .ok (.i2l, 1) := by decide +kernel
theorem dX5_digest_177 : decode cX5_digest 177 = .ok (.ladd, 1) := by decide +kernel
theorem dX5_digest_178 : decode cX5_digest 178 = .ok (.lstore_n 1, 1) := by decide +kernel
theorem dX5_digest_179 : decode cX5_digest 179 = .ok (.iinc 4 1, 3) := by decide +kernel
theorem dX5_digest_182 : decode cX5_digest 182 = .ok (.goto (-25), 3) := by decide +kernel
theorem dX5_digest_185 : decode cX5_digest 185 = .ok (.lload_n 1, 1) := by decide +kernel
theorem dX5_digest_186 : decode cX5_digest 186 = .ok (.ldc2_w 125, 3) := by decide +kernel
theorem dX5_digest_189 : decode cX5_digest 189 = .ok (.lmul, 1) := by decide +kernel
theorem dX5_digest_190 : decode cX5_digest 190 = .ok (.aload_n 0, 1) := by decide +kernel
theorem dX5_digest_191 : decode cX5_digest 191 = .ok (.iload_n 3, 1) := by decide +kernel
theorem dX5_digest_192 : decode cX5_digest 192 = .ok (.invokevirtual 107, 3) := by decide +kernel
theorem dX5_digest_195 : decode cX5_digest 195 = .ok (.i2l, 1) := by decide +kernel
theorem dX5_digest_196 : decode cX5_digest 196 = .ok (.ladd, 1) := by decide +kernel
theorem dX5_digest_197 : decode cX5_digest 197 = .ok (.lstore_n 1, 1) := by decide +kernel
theorem dX5_digest_198 : decode cX5_digest 198 = .ok (.iinc 3 1, 3) := by decide +kernel
theorem dX5_digest_201 : decode cX5_digest 201 = .ok (.goto (-58), 3) := by decide +kernel
theorem dX5_digest_204 : decode cX5_digest 204 = .ok (.lload_n 1, 1) := by decide +kernel
theorem dX5_digest_205 : decode cX5_digest 205 = .ok (.lreturn, 1) := by decide +kernel
theorem dJ9_max_7cf53_0 : decode cJ9_max_7cf53 0 = .ok (.iload_n 0, 1) := by decide +kernel
theorem dJ9_max_7cf53_1 : decode cJ9_max_7cf53 1 = .ok (.iload_n 1, 1) := by decide +kernel
theorem dJ9_max_7cf53_2 : decode cJ9_max_7cf53 2 = .ok (.if_icmp .lt 7, 3) := by decide +kernel
theorem dJ9_max_7cf53_5 : decode cJ9_max_7cf53 5 = .ok (.iload_n 0, 1) := by decide +kernel
theorem dJ9_max_7cf53_6 : decode cJ9_max_7cf53 6 = .ok (.goto 4, 3) := by decide +kernel
theorem dJ9_max_7cf53_9 : decode cJ9_max_7cf53 9 = .ok (.iload_n 1, 1) := by decide +kernel
theorem dJ9_max_7cf53_10 : decode cJ9_max_7cf53 10 = .ok (.ireturn, 1) := by decide +kernel
set_option maxRecDepth 20000 in
theorem ggL_setCurrent_X3_setCurrent : GoodIn wsL_setCurrent wsX3_setCurrent := goodIn_ca (goodIn_ca (goodIn_r _ [7, 8, 9, 10, 11, 12, 13, 14, 15, 6, 16, 17, 18, 19, 20, 21, 22, 23, 24, 25, 26, 27, 28, 29, 30, 31, 32, 33, 34, 35, 36, 37, 38] (by decide +kernel) (by decide +kernel)) (goodIn_sub (fun _ h => List.mem_cons_of_mem _ (List.mem_append_left _ (List.mem_append_right _ h))) (by decide +kernel))) (goodIn_sub (fun _ h => List.mem_cons_of_mem _ (List.mem_append_right _ h)) (by decide +kernel))
set_option maxRecDepth 20000 in
theorem gL_setCurrent_X3_setCurrent : GoodIn wsL_setCurrent (wsV RL 7 RX3 yX3_setCurrent wsX3_setCurrent) := goodIn_app (goodIn_of _ (by decide +kernel)) ggL_setCurrent_X3_setCurrent
theorem dL_setCurrent_0 : decode cL_setCurrent 0 = .ok (.aload_n 3, 1) := by decide +kernel
theorem dL_setCurrent_1 : decode cL_setCurrent 1 = .ok (.iconst 0, 1) := by decide +kernel
theorem dL_setCurrent_2 : decode cL_setCurrent 2 = .ok (.aload_n 0, 1) := by decide +kernel
theorem dL_setCurrent_3 : decode cL_setCurrent 3 = .ok (.iload_n 1, 1) := by decide +kernel
theorem dL_setCurrent_4 : decode cL_setCurrent 4 = .ok (.iload_n 2, 1) := by decide +kernel
theorem dL_setCurrent_5 : decode cL_setCurrent 5 = .ok (.invokevirtual 7, 3) := by decide +kernel
theorem dL_setCurrent_8 : decode cL_setCurrent 8 = .ok (.i2l, 1) := by decide +kernel
theorem dL_setCurrent_9 : decode cL_setCurrent 9 = .ok (.lastore, 1) := by decide +kernel
theorem dL_setCurrent_10 : decode cL_setCurrent 10 = .ok (.goto 11, 3) := by decide +kernel
theorem dL_setCurrent_13 : decode cL_setCurrent 13 = .ok (.astore 4, 2) := by decide +kernel
theorem dL_setCurrent_15 : decode cL_setCurrent 15 = .ok (.iconst 1, 1) := by decide +kernel
theorem dL_setCurrent_16 : decode cL_setCurrent 16 = .ok (.ireturn, 1) := by decide +kernel
theorem dL_setCurrent_17 : decode cL_setCurrent 17 = .ok (.astore 4, 2) := by decide +kernel
theorem dL_setCurrent_19 : decode cL_setCurrent 19 = .ok (.iconst 2, 1) := by decide +kernel
theorem dL_setCurrent_20 : decode cL_setCurrent 20 = .ok (.ireturn, 1) := by decide +kernel
theorem dL_setCurrent_21 : decode cL_setCurrent 21 = .ok (.iconst 0, 1) := by decide +kernel
theorem dL_setCurrent_22 : decode cL_setCurrent 22 = .ok (.ireturn, 1) := by decide +kernel
set_option maxRecDepth 20000 in
theorem ggL_weir_X3_weir : GoodIn wsL_weir wsX3_weir := goodIn_ca (goodIn_ca (goodIn_ca (goodIn_r _ [8, 9, 10, 11, 12, 13, 14, 15, 16, 17, 18, 19, 7, 20, 21, 22, 23, 24, 25, 26, 27, 28, 29, 30, 31, 32, 33, 34, 35, 36, 37, 38, 39, 40, 41, 42, 43, 44, 45, 46] (by decide +kernel) (by decide +kernel)) (goodIn_sub (fun _ h => List.mem_cons_of_mem _ (List.mem_append_left _ (List.mem_append_left _ (List.mem_append_right _ h)))) (by decide +kernel))) (goodIn_sub (fun _ h => List.mem_cons_of_mem _ (List.mem_append_left _ (List.mem_append_right _ h))) (by decide +kernel))) (goodIn_sub (fun _ h => List.mem_cons_of_mem _ (List.mem_append_right _ h)) (by decide +kernel))
set_option maxRecDepth 20000 in
theorem gL_weir_X3_weir : GoodIn wsL_weir (wsV RL 17 RX3 yX3_weir wsX3_weir) := goodIn_app (goodIn_of _ (by decide +kernel)) ggL_weir_X3_weir
theorem dL_weir_0 : decode cL_weir 0 = .ok (.aload_n 3, 1) := by decide +kernel
theorem dL_weir_1 : decode cL_weir 1 = .ok (.iconst 0, 1) := by decide +kernel
theorem dL_weir_2 : decode cL_weir 2 = .ok (.aload_n 0, 1) := by decide +kernel
theorem dL_weir_3 : decode cL_weir 3 = .ok (.iload_n 1, 1) := by decide +kernel
theorem dL_weir_4 : decode cL_weir 4 = .ok (.iload_n 2, 1) := by decide +kernel
theorem dL_weir_5 : decode cL_weir 5 = .ok (.invokevirtual 17, 3) := by decide +kernel
theorem dL_weir_8 : decode cL_weir 8 = .ok (.i2l, 1) := by decide +kernel
theorem dL_weir_9 : decode cL_weir 9 = .ok (.lastore, 1) := by decide +kernel
theorem dL_weir_10 : decode cL_weir 10 = .ok (.goto 15, 3) := by decide +kernel
theorem dL_weir_13 : decode cL_weir 13 = .ok (.astore 4, 2) := by decide +kernel
theorem dL_weir_15 : decode cL_weir 15 = .ok (.iconst 1, 1) := by decide +kernel
theorem dL_weir_16 : decode cL_weir 16 = .ok (.ireturn, 1) := by decide +kernel
theorem dL_weir_17 : decode cL_weir 17 = .ok (.astore 4, 2) := by decide +kernel
theorem dL_weir_19 : decode cL_weir 19 = .ok (.iconst 2, 1) := by decide +kernel
theorem dL_weir_20 : decode cL_weir 20 = .ok (.ireturn, 1) := by decide +kernel
theorem dL_weir_21 : decode cL_weir 21 = .ok (.astore 4, 2) := by decide +kernel
theorem dL_weir_23 : decode cL_weir 23 = .ok (.iconst 3, 1) := by decide +kernel
theorem dL_weir_24 : decode cL_weir 24 = .ok (.ireturn, 1) := by decide +kernel
theorem dL_weir_25 : decode cL_weir 25 = .ok (.iconst 0, 1) := by decide +kernel
theorem dL_weir_26 : decode cL_weir 26 = .ok (.ireturn, 1) := by decide +kernel
set_option maxRecDepth 20000 in
theorem ggL_net_X3_net : GoodIn wsL_net wsX3_net := goodIn_ca (goodIn_ca (goodIn_r _ [7, 8, 9, 10, 11, 12, 13, 14, 15, 6, 16, 17, 18, 19, 20, 21, 22, 23, 24, 25, 26, 27, 28, 29, 30, 31, 32, 33, 34, 35, 36, 37, 38, 39, 40, 41, 42, 43, 44, 45, 46, 47, 48, 49] (by decide +kernel) (by decide +kernel)) (goodIn_sub (fun _ h => List.mem_cons_of_mem _ (List.mem_append_left _ (List.mem_append_right _ h))) (by decide +kernel))) (goodIn_sub (fun _ h => List.mem_cons_of_mem _ (List.mem_append_right _ h)) (by decide +kernel))
set_option maxRecDepth 20000 in
theorem gL_net_X3_net : GoodIn wsL_net (wsV RL 22 RX3 yX3_net wsX3_net) := goodIn_app (goodIn_of _ (by decide +kernel)) ggL_net_X3_net
theorem dL_net_0 : decode cL_net 0 = .ok (.aload_n 3, 1) := by decide +kernel
theorem dL_net_1 : decode cL_net 1 = .ok (.iconst 0, 1) := by decide +kernel
theorem dL_net_2 : decode cL_net 2 = .ok (.aload_n 0, 1) := by decide +kernel
theorem dL_net_3 : decode cL_net 3 = .ok (.iload_n 1, 1) := by decide +kernel
theorem dL_net_4 : decode cL_net 4 = .ok (.iload_n 2, 1) := by decide +kernel
theorem dL_net_5 : decode cL_net 5 = .ok (.invokevirtual 22, 3) := by decide +kernel
theorem dL_net_8 : decode cL_net 8 = .ok (.i2l, 1) := by decide +kernel
theorem dL_net_9 : decode cL_net 9 = .ok (.lastore, 1) := by decide +kernel
theorem dL_net_10 : decode cL_net 10 = .ok (.goto 11, 3) := by decide +kernel
theorem dL_net_13 : decode cL_net 13 = .ok (.astore 4, 2) := by decide +kernel
theorem dL_net_15 : decode cL_net 15 = .ok (.iconst 1, 1) := by decide +kernel
theorem dL_net_16 : decode cL_net 16 = .ok (.ireturn, 1) := by decide +kernel
theorem dL_net_17 : decode cL_net 17 = .ok (.astore 4, 2) := by decide +kernel
theorem dL_net_19 : decode cL_net 19 = .ok (.iconst 2, 1) := by decide +kernel
theorem dL_net_20 : decode cL_net 20 = .ok (.ireturn, 1) := by decide +kernel
theorem dL_net_21 : decode cL_net 21 = .ok (.iconst 0, 1) := by decide +kernel
theorem dL_net_22 : decode cL_net 22 = .ok (.ireturn, 1) := by decide +kernel
set_option maxRecDepth 20000 in
theorem ggL_river_X3_river : GoodIn wsL_river wsX3_river := goodIn_ca (goodIn_r _ [6, 7, 8, 9, 10, 5, 11, 12, 13, 14, 15, 16, 17, 18, 19, 20, 21, 22, 23, 24, 25, 26, 27, 28, 29, 30, 31, 32, 33, 34, 35, 36, 37, 38, 39, 40, 41, 42, 43, 44, 45, 46, 47, 48, 49, 50, 51, 52, 53, 54, 55, 56, 57, 58, 59, 60, 61, 62, 63, 64, 65, 66, 67, 68, 69, 70, 71, 72, 73, 74, 75, 76, 77] (by decide +kernel) (by decide +kernel)) (goodIn_sub (fun _ h => List.mem_cons_of_mem _ (List.mem_append_right _ h)) (by decide +kernel))
set_option maxRecDepth 20000 in
theorem gL_river_X3_river : GoodIn wsL_river (wsV RL 25 RX3 yX3_river wsX3_river) := goodIn_app (goodIn_of _ (by decide +kernel)) ggL_river_X3_river
theorem dL_river_0 : decode cL_river 0 = .ok (.aload 4, 2) := by decide +kernel
theorem dL_river_2 : decode cL_river 2 = .ok (.iconst 0, 1) := by decide +kernel
theorem dL_river_3 : decode cL_river 3 = .ok (.aload_n 0, 1) := by decide +kernel
theorem dL_river_4 : decode cL_river 4 = .ok (.iload_n 1, 1) := by decide +kernel
theorem dL_river_5 : decode cL_river 5 = .ok (.iload_n 2, 1) := by decide +kernel
theorem dL_river_6 : decode cL_river 6 = .ok (.iload_n 3, 1) := by decide +kernel
theorem dL_river_7 : decode cL_river 7 = .ok (.invokevirtual 25, 3) := by decide +kernel
theorem dL_river_10 : decode cL_river 10 = .ok (.i2l, 1) := by decide +kernel
theorem dL_river_11 : decode cL_river 11 = .ok (.lastore, 1) := by decide +kernel
theorem dL_river_12 : decode cL_river 12 = .ok (.goto 7, 3) := by decide +kernel
theorem dL_river_15 : decode cL_river 15 = .ok (.astore 5, 2) := by decide +kernel
theorem dL_river_17 : decode cL_river 17 = .ok (.iconst 1, 1) := by decide +kernel
theorem dL_river_18 : decode cL_river 18 = .ok (.ireturn, 1) := by decide +kernel
theorem dL_river_19 : decode cL_river 19 = .ok (.iconst 0, 1) := by decide +kernel
theorem dL_river_20 : decode cL_river 20 = .ok (.ireturn, 1) := by decide +kernel
set_option maxRecDepth 20000 in
theorem ggL_launch_X3_launch : GoodIn wsL_launch wsX3_launch := goodIn_ca (goodIn_ca (goodIn_ca (goodIn_r _ [8, 9, 10, 11, 12, 13, 14, 15, 16, 17, 18, 7, 19, 20, 21, 22, 23, 24, 25, 26, 27, 28, 29, 30, 31, 32, 33, 34, 35, 36, 37, 38, 39, 40, 41, 42, 43, 44, 45, 46, 47, 48, 49, 50, 51, 52, 53, 54, 55, 56, 57, 58, 59, 60, 61, 62, 63, 64, 65, 66, 67, 68, 69, 70, 71, 72, 73, 74, 75, 76, 77, 78, 79, 80] (by decide +kernel) (by decide +kernel)) (goodIn_sub (fun _ h => List.mem_cons_of_mem _ (List.mem_append_left _ (List.mem_append_left _ (List.mem_append_right _ h)))) (by decide +kernel))) (goodIn_sub (fun _ h => List.mem_cons_of_mem _ (List.mem_append_left _ (List.mem_append_right _ h))) (by decide +kernel))) (goodIn_sub (fun _ h => List.mem_cons_of_mem _ (List.mem_append_right _ h)) (by decide +kernel))
set_option maxRecDepth 20000 in
theorem gL_launch_X3_launch : GoodIn wsL_launch (wsV RL 29 RX3 yX3_launch wsX3_launch) := goodIn_app (goodIn_of _ (by decide +kernel)) ggL_launch_X3_launch
theorem dL_launch_0 : decode cL_launch 0 = .ok (.aload 5, 2) := by decide +kernel
theorem dL_launch_2 : decode cL_launch 2 = .ok (.iconst 0, 1) := by decide +kernel
theorem dL_launch_3 : decode cL_launch 3 = .ok (.aload_n 0, 1) := by decide +kernel
theorem dL_launch_4 : decode cL_launch 4 = .ok (.iload_n 1, 1) := by decide +kernel
theorem dL_launch_5 : decode cL_launch 5 = .ok (.iload_n 2, 1) := by decide +kernel
theorem dL_launch_6 : decode cL_launch 6 = .ok (.iload_n 3, 1) := by decide +kernel
theorem dL_launch_7 : decode cL_launch 7 = .ok (.iload 4, 2) := by decide +kernel
theorem dL_launch_9 : decode cL_launch 9 = .ok (.invokevirtual 29, 3) := by decide +kernel
theorem dL_launch_12 : decode cL_launch 12 = .ok (.i2l, 1) := by decide +kernel
theorem dL_launch_13 : decode cL_launch 13 = .ok (.lastore, 1) := by decide +kernel
theorem dL_launch_14 : decode cL_launch 14 = .ok (.goto 15, 3) := by decide +kernel
theorem dL_launch_17 : decode cL_launch 17 = .ok (.astore 6, 2) := by decide +kernel
theorem dL_launch_19 : decode cL_launch 19 = .ok (.iconst 1, 1) := by decide +kernel
theorem dL_launch_20 : decode cL_launch 20 = .ok (.ireturn, 1) := by decide +kernel
theorem dL_launch_21 : decode cL_launch 21 = .ok (.astore 6, 2) := by decide +kernel
theorem dL_launch_23 : decode cL_launch 23 = .ok (.iconst 2, 1) := by decide +kernel
theorem dL_launch_24 : decode cL_launch 24 = .ok (.ireturn, 1) := by decide +kernel
theorem dL_launch_25 : decode cL_launch 25 = .ok (.astore 6, 2) := by decide +kernel
theorem dL_launch_27 : decode cL_launch 27 = .ok (.iconst 3, 1) := by decide +kernel
theorem dL_launch_28 : decode cL_launch 28 = .ok (.ireturn, 1) := by decide +kernel
theorem dL_launch_29 : decode cL_launch 29 = .ok (.iconst 0, 1) := by decide +kernel
theorem dL_launch_30 : decode cL_launch 30 = .ok (.ireturn, 1) := by decide +kernel
set_option maxRecDepth 20000 in
theorem ggL_push_X3_push : GoodIn wsL_push wsX3_push := goodIn_ca (goodIn_ca (goodIn_r _ [7, 8, 9, 10, 11, 12, 13, 14, 15, 16, 17, 18, 19, 20, 21, 6, 22, 23, 24, 25, 26, 27, 28, 29, 30, 31, 32, 33, 34, 35, 36, 37, 38, 39, 40, 41, 42, 43, 44, 45, 46, 47, 48, 49, 50, 51, 52, 53, 54, 55, 56, 57, 58, 59, 60, 61, 62, 63, 64, 65, 66, 67, 68, 69, 70, 71, 72, 73, 74, 75] (by decide +kernel) (by decide +kernel)) (goodIn_sub (fun _ h => List.mem_cons_of_mem _ (List.mem_append_left _ (List.mem_append_right _ h))) (by decide +kernel))) (goodIn_sub (fun _ h => List.mem_cons_of_mem _ (List.mem_append_right _ h)) (by decide +kernel))
set_option maxRecDepth 20000 in
theorem gL_push_X3_push : GoodIn wsL_push (wsV RL 33 RX3 yX3_push wsX3_push) := goodIn_app (goodIn_of _ (by decide +kernel)) ggL_push_X3_push
theorem dL_push_0 : decode cL_push 0 = .ok (.aload_n 3, 1) := by decide +kernel
theorem dL_push_1 : decode cL_push 1 = .ok (.iconst 0, 1) := by decide +kernel
theorem dL_push_2 : decode cL_push 2 = .ok (.aload_n 0, 1) := by decide +kernel
theorem dL_push_3 : decode cL_push 3 = .ok (.iload_n 1, 1) := by decide +kernel
theorem dL_push_4 : decode cL_push 4 = .ok (.iload_n 2, 1) := by decide +kernel
theorem dL_push_5 : decode cL_push 5 = .ok (.invokevirtual 33, 3) := by decide +kernel
theorem dL_push_8 : decode cL_push 8 = .ok (.i2l, 1) := by decide +kernel
theorem dL_push_9 : decode cL_push 9 = .ok (.lastore, 1) := by decide +kernel
theorem dL_push_10 : decode cL_push 10 = .ok (.goto 11, 3) := by decide +kernel
theorem dL_push_13 : decode cL_push 13 = .ok (.astore 4, 2) := by decide +kernel
theorem dL_push_15 : decode cL_push 15 = .ok (.iconst 1, 1) := by decide +kernel
theorem dL_push_16 : decode cL_push 16 = .ok (.ireturn, 1) := by decide +kernel
theorem dL_push_17 : decode cL_push 17 = .ok (.astore 4, 2) := by decide +kernel
theorem dL_push_19 : decode cL_push 19 = .ok (.iconst 2, 1) := by decide +kernel
theorem dL_push_20 : decode cL_push 20 = .ok (.ireturn, 1) := by decide +kernel
theorem dL_push_21 : decode cL_push 21 = .ok (.iconst 0, 1) := by decide +kernel
theorem dL_push_22 : decode cL_push 22 = .ok (.ireturn, 1) := by decide +kernel
set_option maxRecDepth 20000 in
theorem ggL_light_X3_light : GoodIn wsL_light wsX3_light := goodIn_ca (goodIn_ca (goodIn_r _ [7, 8, 9, 10, 11, 12, 13, 14, 15, 16, 17, 18, 19, 20, 21, 6, 22, 23, 24, 25, 26, 27, 28, 29, 30, 31, 32, 33, 34, 35, 36, 37, 38, 39, 40, 41, 42, 43, 44, 45, 46, 47, 48, 49, 50, 51, 52, 53, 54, 55, 56, 57, 58, 59, 60, 61, 62, 63, 64, 65, 66, 67, 68, 69, 70, 71, 72, 73, 74] (by decide +kernel) (by decide +kernel)) (goodIn_sub (fun _ h => List.mem_cons_of_mem _ (List.mem_append_left _ (List.mem_append_right _ h))) (by decide +kernel))) (goodIn_sub (fun _ h => List.mem_cons_of_mem _ (List.mem_append_right _ h)) (by decide +kernel))
set_option maxRecDepth 20000 in
theorem gL_light_X3_light : GoodIn wsL_light (wsV RL 36 RX3 yX3_light wsX3_light) := goodIn_app (goodIn_of _ (by decide +kernel)) ggL_light_X3_light
theorem dL_light_0 : decode cL_light 0 = .ok (.aload_n 2, 1) := by decide +kernel
theorem dL_light_1 : decode cL_light 1 = .ok (.iconst 0, 1) := by decide +kernel
theorem dL_light_2 : decode cL_light 2 = .ok (.aload_n 0, 1) := by decide +kernel
theorem dL_light_3 : decode cL_light 3 = .ok (.iload_n 1, 1) := by decide +kernel
theorem dL_light_4 : decode cL_light 4 = .ok (.invokevirtual 36, 3) := by decide +kernel
theorem dL_light_7 : decode cL_light 7 = .ok (.i2l, 1) := by decide +kernel
theorem dL_light_8 : decode cL_light 8 = .ok (.lastore, 1) := by decide +kernel
theorem dL_light_9 : decode cL_light 9 = .ok (.goto 9, 3) := by decide +kernel
theorem dL_light_12 : decode cL_light 12 = .ok (.astore_n 3, 1) := by decide +kernel
theorem dL_light_13 : decode cL_light 13 = .ok (.iconst 1, 1) := by decide +kernel
theorem dL_light_14 : decode cL_light 14 = .ok (.ireturn, 1) := by decide +kernel
theorem dL_light_15 : decode cL_light 15 = .ok (.astore_n 3, 1) := by decide +kernel
theorem dL_light_16 : decode cL_light 16 = .ok (.iconst 2, 1) := by decide +kernel
theorem dL_light_17 : decode cL_light 17 = .ok (.ireturn, 1) := by decide +kernel
theorem dL_light_18 : decode cL_light 18 = .ok (.iconst 0, 1) := by decide +kernel
theorem dL_light_19 : decode cL_light 19 = .ok (.ireturn, 1) := by decide +kernel
set_option maxRecDepth 20000 in
theorem ggL_blow_X3_blow : GoodIn wsL_blow wsX3_blow := goodIn_ca (goodIn_ca (goodIn_r _ [7, 8, 9, 10, 11, 12, 13, 14, 15, 16, 17, 18, 19, 20, 21, 6, 22, 23, 24, 25, 26, 27, 28, 29, 30, 31, 32, 33, 34, 35, 36, 37, 38, 39, 40, 41, 42, 43, 44, 45, 46, 47, 48, 49, 50, 51, 52, 53, 54, 55, 56, 57, 58, 59, 60, 61] (by decide +kernel) (by decide +kernel)) (goodIn_sub (fun _ h => List.mem_cons_of_mem _ (List.mem_append_left _ (List.mem_append_right _ h))) (by decide +kernel))) (goodIn_sub (fun _ h => List.mem_cons_of_mem _ (List.mem_append_right _ h)) (by decide +kernel))
set_option maxRecDepth 20000 in
theorem gL_blow_X3_blow : GoodIn wsL_blow (wsV RL 40 RX3 yX3_blow wsX3_blow) := goodIn_app (goodIn_of _ (by decide +kernel)) ggL_blow_X3_blow
theorem dL_blow_0 : decode cL_blow 0 = .ok (.aload_n 2, 1) := by decide +kernel
theorem dL_blow_1 : decode cL_blow 1 = .ok (.iconst 0, 1) := by decide +kernel
theorem dL_blow_2 : decode cL_blow 2 = .ok (.aload_n 0, 1) := by decide +kernel
theorem dL_blow_3 : decode cL_blow 3 = .ok (.iload_n 1, 1) := by decide +kernel
theorem dL_blow_4 : decode cL_blow 4 = .ok (.invokevirtual 40, 3) := by decide +kernel
theorem dL_blow_7 : decode cL_blow 7 = .ok (.i2l, 1) := by decide +kernel
theorem dL_blow_8 : decode cL_blow 8 = .ok (.lastore, 1) := by decide +kernel
theorem dL_blow_9 : decode cL_blow 9 = .ok (.goto 9, 3) := by decide +kernel
theorem dL_blow_12 : decode cL_blow 12 = .ok (.astore_n 3, 1) := by decide +kernel
theorem dL_blow_13 : decode cL_blow 13 = .ok (.iconst 1, 1) := by decide +kernel
theorem dL_blow_14 : decode cL_blow 14 = .ok (.ireturn, 1) := by decide +kernel
theorem dL_blow_15 : decode cL_blow 15 = .ok (.astore_n 3, 1) := by decide +kernel
theorem dL_blow_16 : decode cL_blow 16 = .ok (.iconst 2, 1) := by decide +kernel
theorem dL_blow_17 : decode cL_blow 17 = .ok (.ireturn, 1) := by decide +kernel
theorem dL_blow_18 : decode cL_blow 18 = .ok (.iconst 0, 1) := by decide +kernel
theorem dL_blow_19 : decode cL_blow 19 = .ok (.ireturn, 1) := by decide +kernel
set_option maxRecDepth 20000 in
theorem ggL_told_X3_told : GoodIn wsL_told wsX3_told := goodIn_ca (goodIn_r _ [6, 7, 8, 9, 10, 11, 12, 13, 14, 15, 16, 5, 17, 18, 19, 20, 21, 22, 23, 24, 25, 26, 27, 28, 29, 30, 31, 32, 33, 34, 35, 36, 37, 38, 39, 40, 41, 42, 43, 44, 45, 46, 47, 48, 49, 50, 51, 52, 53, 54] (by decide +kernel) (by decide +kernel)) (goodIn_sub (fun _ h => List.mem_cons_of_mem _ (List.mem_append_right _ h)) (by decide +kernel))
set_option maxRecDepth 20000 in
theorem gL_told_X3_told : GoodIn wsL_told (wsV RL 43 RX3 yX3_told wsX3_told) := goodIn_app (goodIn_of _ (by decide +kernel)) ggL_told_X3_told
theorem dL_told_0 : decode cL_told 0 = .ok (.aload_n 3, 1) := by decide +kernel
theorem dL_told_1 : decode cL_told 1 = .ok (.iconst 0, 1) := by decide +kernel
theorem dL_told_2 : decode cL_told 2 = .ok (.aload_n 0, 1) := by decide +kernel
theorem dL_told_3 : decode cL_told 3 = .ok (.iload_n 1, 1) := by decide +kernel
theorem dL_told_4 : decode cL_told 4 = .ok (.iload_n 2, 1) := by decide +kernel
theorem dL_told_5 : decode cL_told 5 = .ok (.invokevirtual 43, 3) := by decide +kernel
theorem dL_told_8 : decode cL_told 8 = .ok (.i2l, 1) := by decide +kernel
theorem dL_told_9 : decode cL_told 9 = .ok (.lastore, 1) := by decide +kernel
theorem dL_told_10 : decode cL_told 10 = .ok (.goto 7, 3) := by decide +kernel
theorem dL_told_13 : decode cL_told 13 = .ok (.astore 4, 2) := by decide +kernel
theorem dL_told_15 : decode cL_told 15 = .ok (.iconst 1, 1) := by decide +kernel
theorem dL_told_16 : decode cL_told 16 = .ok (.ireturn, 1) := by decide +kernel
theorem dL_told_17 : decode cL_told 17 = .ok (.iconst 0, 1) := by decide +kernel
theorem dL_told_18 : decode cL_told 18 = .ok (.ireturn, 1) := by decide +kernel
set_option maxRecDepth 20000 in
theorem ggL_next_X3_next : GoodIn wsL_next wsX3_next := goodIn_ca (goodIn_r _ [6, 7, 8, 9, 10, 11, 12, 13, 14, 15, 16, 5, 17, 18, 19, 20, 21, 22, 23, 24, 25, 26, 27, 28, 29, 30, 31, 32, 33, 34, 35, 36, 37, 38, 39, 40, 41, 42, 43, 44, 45, 46, 47, 48, 49, 50, 51, 52, 53, 54, 55, 56, 57, 58, 59] (by decide +kernel) (by decide +kernel)) (goodIn_sub (fun _ h => List.mem_cons_of_mem _ (List.mem_append_right _ h)) (by decide +kernel))
set_option maxRecDepth 20000 in
theorem gL_next_X3_next : GoodIn wsL_next (wsV RL 46 RX3 yX3_next wsX3_next) := goodIn_app (goodIn_of _ (by decide +kernel)) ggL_next_X3_next
theorem dL_next_0 : decode cL_next 0 = .ok (.aload_n 2, 1) := by decide +kernel
theorem dL_next_1 : decode cL_next 1 = .ok (.iconst 0, 1) := by decide +kernel
theorem dL_next_2 : decode cL_next 2 = .ok (.aload_n 0, 1) := by decide +kernel
theorem dL_next_3 : decode cL_next 3 = .ok (.iload_n 1, 1) := by decide +kernel
theorem dL_next_4 : decode cL_next 4 = .ok (.invokevirtual 46, 3) := by decide +kernel
theorem dL_next_7 : decode cL_next 7 = .ok (.i2l, 1) := by decide +kernel
theorem dL_next_8 : decode cL_next 8 = .ok (.lastore, 1) := by decide +kernel
theorem dL_next_9 : decode cL_next 9 = .ok (.goto 6, 3) := by decide +kernel
theorem dL_next_12 : decode cL_next 12 = .ok (.astore_n 3, 1) := by decide +kernel
theorem dL_next_13 : decode cL_next 13 = .ok (.iconst 1, 1) := by decide +kernel
theorem dL_next_14 : decode cL_next 14 = .ok (.ireturn, 1) := by decide +kernel
theorem dL_next_15 : decode cL_next 15 = .ok (.iconst 0, 1) := by decide +kernel
theorem dL_next_16 : decode cL_next 16 = .ok (.ireturn, 1) := by decide +kernel
set_option maxRecDepth 20000 in
theorem ggL_count_X3_count : GoodIn wsL_count wsX3_count := goodIn_ca (goodIn_r _ [6, 7, 8, 9, 10, 5, 11, 12, 13, 14, 15, 16, 17, 18, 19, 20, 21, 22, 23, 24, 25, 26, 27, 28, 29, 30, 31, 32, 33, 34, 35, 36, 37, 38, 39, 40, 41, 42, 43, 44, 45, 46, 47, 48, 49, 50, 51, 52, 53, 54, 55, 56, 57, 58, 59, 60, 61, 62] (by decide +kernel) (by decide +kernel)) (goodIn_sub (fun _ h => List.mem_cons_of_mem _ (List.mem_append_right _ h)) (by decide +kernel))
set_option maxRecDepth 20000 in
theorem gL_count_X3_count : GoodIn wsL_count (wsV RL 49 RX3 yX3_count wsX3_count) := goodIn_app (goodIn_of _ (by decide +kernel)) ggL_count_X3_count
theorem dL_count_0 : decode cL_count 0 = .ok (.aload_n 2, 1) := by decide +kernel
theorem dL_count_1 : decode cL_count 1 = .ok (.iconst 0, 1) := by decide +kernel
theorem dL_count_2 : decode cL_count 2 = .ok (.aload_n 0, 1) := by decide +kernel
theorem dL_count_3 : decode cL_count 3 = .ok (.iload_n 1, 1) := by decide +kernel
theorem dL_count_4 : decode cL_count 4 = .ok (.invokevirtual 49, 3) := by decide +kernel
theorem dL_count_7 : decode cL_count 7 = .ok (.i2l, 1) := by decide +kernel
theorem dL_count_8 : decode cL_count 8 = .ok (.lastore, 1) := by decide +kernel
theorem dL_count_9 : decode cL_count 9 = .ok (.goto 6, 3) := by decide +kernel
theorem dL_count_12 : decode cL_count 12 = .ok (.astore_n 3, 1) := by decide +kernel
theorem dL_count_13 : decode cL_count 13 = .ok (.iconst 1, 1) := by decide +kernel
theorem dL_count_14 : decode cL_count 14 = .ok (.ireturn, 1) := by decide +kernel
theorem dL_count_15 : decode cL_count 15 = .ok (.iconst 0, 1) := by decide +kernel
theorem dL_count_16 : decode cL_count 16 = .ok (.ireturn, 1) := by decide +kernel
set_option maxRecDepth 20000 in
theorem ggL_pass_X3_pass : GoodIn wsL_pass wsX3_pass := goodIn_ca (goodIn_r _ [6, 7, 8, 9, 10, 11, 12, 5, 13, 14, 15, 16, 17, 18, 19, 20, 21, 22, 23, 24, 25, 26, 27, 28, 29, 30, 31, 32, 33, 34, 35, 36, 37, 38, 39, 40, 41, 42, 43, 44, 45, 46, 47, 48, 49, 50, 51, 52, 53, 54, 55, 56, 57, 58, 59, 60, 61, 62, 63, 64, 65, 66, 67, 68, 69, 70, 71, 72, 73, 74, 75, 76, 77, 78, 79, 80, 81, 82, 83, 84, 85, 86, 87, 88, 89, 90, 91, 92, 93, 94, 95, 96, 97, 98, 99, 100, 101, 102, 103, 104, 105, 106, 107, 108, 109, 110, 111, 112, 113, 114, 115, 116, 117, 118, 119, 120, 121, 122, 123, 124, 125, 126, 127, 128, 129, 130, 131, 132, 133] (by decide +kernel) (by decide +kernel)) (goodIn_sub (fun _ h => List.mem_cons_of_mem _ (List.mem_append_right _ h)) (by decide +kernel))
set_option maxRecDepth 20000 in
theorem gL_pass_X3_pass : GoodIn wsL_pass (wsV RL 52 RX3 yX3_pass wsX3_pass) := goodIn_app (goodIn_of _ (by decide +kernel)) ggL_pass_X3_pass
theorem dL_pass_0 : decode cL_pass 0 = .ok (.aload_n 2, 1) := by decide +kernel
theorem dL_pass_1 : decode cL_pass 1 = .ok (.iconst 0, 1) := by decide +kernel
theorem dL_pass_2 : decode cL_pass 2 = .ok (.aload_n 0, 1) := by decide +kernel
theorem dL_pass_3 : decode cL_pass 3 = .ok (.iload_n 1, 1) := by decide +kernel
theorem dL_pass_4 : decode cL_pass 4 = .ok (.invokevirtual 52, 3) := by decide +kernel
theorem dL_pass_7 : decode cL_pass 7 = .ok (.i2l, 1) := by decide +kernel
theorem dL_pass_8 : decode cL_pass 8 = .ok (.lastore, 1) := by decide +kernel
theorem dL_pass_9 : decode cL_pass 9 = .ok (.goto 6, 3) := by decide +kernel
theorem dL_pass_12 : decode cL_pass 12 = .ok (.astore_n 3, 1) := by decide +kernel
theorem dL_pass_13 : decode cL_pass 13 = .ok (.iconst 1, 1) := by decide +kernel
theorem dL_pass_14 : decode cL_pass 14 = .ok (.ireturn, 1) := by decide +kernel
theorem dL_pass_15 : decode cL_pass 15 = .ok (.iconst 0, 1) := by decide +kernel
theorem dL_pass_16 : decode cL_pass 16 = .ok (.ireturn, 1) := by decide +kernel
set_option maxRecDepth 20000 in
theorem ggL_burns_X3_burns : GoodIn wsL_burns wsX3_burns := goodIn_ca (goodIn_r _ [6, 7, 8, 9, 10, 11, 12, 13, 14, 15, 16, 17, 18, 5, 19, 20, 21, 22, 23, 24, 25, 26, 27, 28, 29, 30, 31, 32, 33, 34, 35, 36, 37, 38, 39, 40, 41, 42, 43, 44, 45, 46, 47, 48, 49, 50, 51, 52, 53, 54, 55, 56, 57, 58, 59, 60, 61, 62, 63, 64, 65, 66, 67, 68, 69, 70, 71, 72, 73, 74, 75, 76, 77, 78, 79, 80, 81, 82, 83, 84, 85, 86, 87, 88, 89, 90, 91, 92, 93, 94, 95, 96, 97, 98, 99, 100, 101, 102, 103, 104, 105, 106, 107, 108, 109, 110, 111, 112, 113, 114, 115, 116, 117, 118, 119, 120, 121, 122, 123, 124, 125, 126, 127, 128, 129, 130, 131, 132, 133, 134, 135, 136] (by decide +kernel) (by decide +kernel)) (goodIn_sub (fun _ h => List.mem_cons_of_mem _ (List.mem_append_right _ h)) (by decide +kernel))
set_option maxRecDepth 20000 in
theorem gL_burns_X3_burns : GoodIn wsL_burns (wsV RL 55 RX3 yX3_burns wsX3_burns) := goodIn_app (goodIn_of _ (by decide +kernel)) ggL_burns_X3_burns
theorem dL_burns_0 : decode cL_burns 0 = .ok (.aload_n 2, 1) := by decide +kernel
theorem dL_burns_1 : decode cL_burns 1 = .ok (.iconst 0, 1) := by decide +kernel
theorem dL_burns_2 : decode cL_burns 2 = .ok (.aload_n 0, 1) := by decide +kernel
theorem dL_burns_3 : decode cL_burns 3 = .ok (.iload_n 1, 1) := by decide +kernel
theorem dL_burns_4 : decode cL_burns 4 = .ok (.invokevirtual 55, 3) := by decide +kernel
theorem dL_burns_7 : decode cL_burns 7 = .ok (.i2l, 1) := by decide +kernel
theorem dL_burns_8 : decode cL_burns 8 = .ok (.lastore, 1) := by decide +kernel
theorem dL_burns_9 : decode cL_burns 9 = .ok (.goto 6, 3) := by decide +kernel
theorem dL_burns_12 : decode cL_burns 12 = .ok (.astore_n 3, 1) := by decide +kernel
theorem dL_burns_13 : decode cL_burns 13 = .ok (.iconst 1, 1) := by decide +kernel
theorem dL_burns_14 : decode cL_burns 14 = .ok (.ireturn, 1) := by decide +kernel
theorem dL_burns_15 : decode cL_burns 15 = .ok (.iconst 0, 1) := by decide +kernel
theorem dL_burns_16 : decode cL_burns 16 = .ok (.ireturn, 1) := by decide +kernel
set_option maxRecDepth 20000 in
theorem ggL_foresee_X3_foresee : GoodIn wsL_foresee wsX3_foresee := goodIn_ca (goodIn_ca (goodIn_r _ [7, 8, 9, 10, 11, 12, 13, 14, 15, 16, 6, 17, 18, 19, 20, 21, 22, 23, 24, 25, 26, 27, 28, 29, 30, 31, 32, 33, 34, 35, 36, 37, 38, 39, 40, 41, 42, 43, 44, 45, 46, 47, 48, 49, 50, 51, 52, 53, 54, 55, 56, 57, 58, 59, 60, 61, 62, 63, 64, 65, 66, 67, 68, 69, 70, 71, 72, 73, 74, 75, 76, 77, 78, 79, 80, 81, 82, 83, 84, 85, 86, 87, 88, 89, 90, 91, 92, 93, 94, 95, 96, 97, 98, 99, 100, 101, 102, 103, 104, 105, 106, 107, 108, 109, 110, 111, 112, 113, 114, 115, 116, 117, 118, 119, 120, 121, 122, 123, 124, 125, 126, 127, 128, 129, 130, 131, 132, 133, 134, 135, 136, 137, 138, 139, 140, 141, 142, 143, 144, 145, 146] (by decide +kernel) (by decide +kernel)) (goodIn_sub (fun _ h => List.mem_cons_of_mem _ (List.mem_append_left _ (List.mem_append_right _ h))) (by decide +kernel))) (goodIn_sub (fun _ h => List.mem_cons_of_mem _ (List.mem_append_right _ h)) (by decide +kernel))
set_option maxRecDepth 20000 in
theorem gL_foresee_X3_foresee : GoodIn wsL_foresee (wsV RL 58 RX3 yX3_foresee wsX3_foresee) := goodIn_app (goodIn_of _ (by decide +kernel)) ggL_foresee_X3_foresee
theorem dL_foresee_0 : decode cL_foresee 0 = .ok (.aload_n 3, 1) := by decide +kernel
theorem dL_foresee_1 : decode cL_foresee 1 = .ok (.iconst 0, 1) := by decide +kernel
theorem dL_foresee_2 : decode cL_foresee 2 = .ok (.aload_n 0, 1) := by decide +kernel
theorem dL_foresee_3 : decode cL_foresee 3 = .ok (.iload_n 1, 1) := by decide +kernel
theorem dL_foresee_4 : decode cL_foresee 4 = .ok (.iload_n 2, 1) := by decide +kernel
theorem dL_foresee_5 : decode cL_foresee 5 = .ok (.invokevirtual 58, 3) := by decide +kernel
theorem dL_foresee_8 : decode cL_foresee 8 = .ok (.i2l, 1) := by decide +kernel
theorem dL_foresee_9 : decode cL_foresee 9 = .ok (.lastore, 1) := by decide +kernel
theorem dL_foresee_10 : decode cL_foresee 10 = .ok (.goto 11, 3) := by decide +kernel
theorem dL_foresee_13 : decode cL_foresee 13 = .ok (.astore 4, 2) := by decide +kernel
theorem dL_foresee_15 : decode cL_foresee 15 = .ok (.iconst 1, 1) := by decide +kernel
theorem dL_foresee_16 : decode cL_foresee 16 = .ok (.ireturn, 1) := by decide +kernel
theorem dL_foresee_17 : decode cL_foresee 17 = .ok (.astore 4, 2) := by decide +kernel
theorem dL_foresee_19 : decode cL_foresee 19 = .ok (.iconst 2, 1) := by decide +kernel
theorem dL_foresee_20 : decode cL_foresee 20 = .ok (.ireturn, 1) := by decide +kernel
theorem dL_foresee_21 : decode cL_foresee 21 = .ok (.iconst 0, 1) := by decide +kernel
theorem dL_foresee_22 : decode cL_foresee 22 = .ok (.ireturn, 1) := by decide +kernel
set_option maxRecDepth 20000 in
theorem ggL_advise_X3_advise : GoodIn wsL_advise wsX3_advise := goodIn_ca (goodIn_r _ [6, 7, 8, 9, 10, 5, 11, 12, 13, 14, 15, 16, 17, 18, 19, 20, 21, 22, 23, 24, 25, 26, 27, 28, 29, 30, 31, 32, 33, 34, 35, 36, 37, 38, 39, 40, 41, 42, 43, 44, 45, 46, 47, 48, 49, 50, 51, 52, 53, 54, 55, 56, 57, 58, 59, 60, 61, 62, 63, 64, 65, 66, 67, 68, 69, 70, 71, 72, 73, 74, 75, 76, 77, 78, 79, 80, 81, 82, 83, 84, 85, 86, 87, 88, 89, 90, 91, 92, 93, 94, 95, 96, 97, 98, 99, 100, 101, 102, 103, 104, 105, 106, 107, 108, 109, 110, 111, 112, 113, 114, 115, 116, 117, 118, 119, 120, 121, 122, 123, 124, 125, 126, 127, 128, 129, 130, 131, 132, 133, 134, 135, 136, 137, 138, 139, 140, 141, 142, 143, 144, 145, 146, 147, 148, 149, 150, 151] (by decide +kernel) (by decide +kernel)) (goodIn_sub (fun _ h => List.mem_cons_of_mem _ (List.mem_append_right _ h)) (by decide +kernel))
set_option maxRecDepth 20000 in
theorem gL_advise_X3_advise : GoodIn wsL_advise (wsV RL 61 RX3 yX3_advise wsX3_advise) := goodIn_app (goodIn_of _ (by decide +kernel)) ggL_advise_X3_advise
theorem dL_advise_0 : decode cL_advise 0 = .ok (.aload_n 2, 1) := by decide +kernel
theorem dL_advise_1 : decode cL_advise 1 = .ok (.iconst 0, 1) := by decide +kernel
theorem dL_advise_2 : decode cL_advise 2 = .ok (.aload_n 0, 1) := by decide +kernel
theorem dL_advise_3 : decode cL_advise 3 = .ok (.iload_n 1, 1) := by decide +kernel
theorem dL_advise_4 : decode cL_advise 4 = .ok (.invokevirtual 61, 3) := by decide +kernel
theorem dL_advise_7 : decode cL_advise 7 = .ok (.i2l, 1) := by decide +kernel
theorem dL_advise_8 : decode cL_advise 8 = .ok (.lastore, 1) := by decide +kernel
theorem dL_advise_9 : decode cL_advise 9 = .ok (.goto 6, 3) := by decide +kernel
theorem dL_advise_12 : decode cL_advise 12 = .ok (.astore_n 3, 1) := by decide +kernel
theorem dL_advise_13 : decode cL_advise 13 = .ok (.iconst 1, 1) := by decide +kernel
theorem dL_advise_14 : decode cL_advise 14 = .ok (.ireturn, 1) := by decide +kernel
theorem dL_advise_15 : decode cL_advise 15 = .ok (.iconst 0, 1) := by decide +kernel
theorem dL_advise_16 : decode cL_advise 16 = .ok (.ireturn, 1) := by decide +kernel
set_option maxRecDepth 20000 in
theorem ggL_law_X3_init : GoodIn wsL_law wsX3_init := goodIn_r _ [9, 10, 11, 12, 13, 14, 15, 16, 17, 18, 19, 20, 21, 22, 23, 24, 25, 26, 27, 28, 29, 30, 31, 32, 33, 34, 35, 36, 37, 38, 39, 40, 41, 42, 43, 44, 45, 46, 47, 48, 49, 50, 51, 52, 53, 54, 55, 56, 57, 560, 561, 562, 563, 564, 549, 550, 551, 565, 566, 567, 568, 569, 570, 571, 572, 573, 574, 575, 576, 577, 578] (by decide +kernel) (by decide +kernel)
set_option maxRecDepth 20000 in
theorem gL_law_X3_init : GoodIn wsL_law (wsX3_init) := ggL_law_X3_init
set_option maxRecDepth 20000 in
theorem ggL_law_X5_init : GoodIn wsL_law wsX5_init := goodIn_r _ [60, 61, 11, 12, 36, 62, 63, 64, 65, 66, 67, 68, 69, 70, 71, 72, 73, 74, 75, 76, 77, 78, 79, 80, 81, 82, 83, 552, 553, 554, 555, 556, 557, 558, 559, 579, 580, 581, 582, 583, 584, 585, 586, 587, 588, 589, 590, 591] (by decide +kernel) (by decide +kernel)
set_option maxRecDepth 20000 in
theorem gL_law_X5_init : GoodIn wsL_law (wsX5_init) := ggL_law_X5_init
set_option maxRecDepth 20000 in
theorem ggL_law_L_setCurrent : GoodIn wsL_law wsL_setCurrent := goodIn_ca (goodIn_ca (goodIn_r _ [87, 88, 89, 90, 91, 92, 2, 93, 94, 95, 96, 97, 16, 98, 99, 100, 101, 102, 103, 104, 105, 106, 107, 28, 108, 37, 109, 39, 40, 41, 549, 550, 551, 560, 561, 562, 563, 564, 578] (by decide +kernel) (by decide +kernel)) (goodIn_sub (fun _ h => List.mem_append_left _ (List.mem_append_left _ (List.mem_append_right _ h))) (by decide +kernel))) (goodIn_sub (fun _ h => List.mem_append_left _ (List.mem_append_right _ h)) (by decide +kernel))
set_option maxRecDepth 20000 in
theorem gL_law_L_setCurrent : GoodIn wsL_law (va_wsS RL 68 yL_setCurrent wsL_setCurrent) := goodIn_app (goodIn_of _ (by decide +kernel)) ggL_law_L_setCurrent
set_option maxRecDepth 20000 in
theorem ggL_law_X5_setCurrent : GoodIn wsL_law wsX5_setCurrent := goodIn_r _ [113, 114, 62, 115, 116, 5, 117, 118, 119, 120, 121, 122, 123, 124, 552, 553, 554, 555, 556, 557, 558, 559] (by decide +kernel) (by decide +kernel)
set_option maxRecDepth 20000 in
theorem gL_law_X5_setCurrent : GoodIn wsL_law (wsV RL 73 RX5 yX5_setCurrent wsX5_setCurrent) := goodIn_app (goodIn_of _ (by decide +kernel)) ggL_law_X5_setCurrent
set_option maxRecDepth 20000 in
theorem ggL_law_X5_thrown : GoodIn wsL_law wsX5_thrown := goodIn_r _ [128, 114, 552, 553, 554, 555, 556, 557, 558, 559] (by decide +kernel) (by decide +kernel)
set_option maxRecDepth 20000 in
theorem gL_law_X5_thrown : GoodIn wsL_law (wsV RL 74 RX5 yX5_thrown wsX5_thrown) := goodIn_app (goodIn_of _ (by decide +kernel)) ggL_law_X5_thrown
set_option maxRecDepth 20000 in
theorem ggL_law_L_weir : GoodIn wsL_law wsL_weir := goodIn_ca (goodIn_ca (goodIn_ca (goodIn_r _ [131, 88, 89, 132, 133, 134, 135, 2, 136, 94, 95, 96, 97, 137, 138, 16, 139, 140, 102, 103, 104, 105, 106, 107, 28, 108, 37, 141, 142, 143, 15, 144, 30, 145, 38, 39, 40, 41, 549, 550, 551, 560, 561, 562, 563, 564, 578] (by decide +kernel) (by decide +kernel)) (goodIn_sub (fun _ h => List.mem_append_left _ (List.mem_append_left _ (List.mem_append_right _ h))) (by decide +kernel))) (goodIn_sub (fun _ h => List.mem_append_left _ (List.mem_append_right _ h)) (by decide +kernel))) (goodIn_sub (fun _ h => List.mem_append_right _ h) (by decide +kernel))
set_option maxRecDepth 20000 in
theorem gL_law_L_weir : GoodIn wsL_law (va_wsS RL 78 yL_weir wsL_weir) := goodIn_app (goodIn_of _ (by decide +kernel)) ggL_law_L_weir
set_option maxRecDepth 20000 in
theorem ggL_law_X5_weir : GoodIn wsL_law wsX5_weir := goodIn_r _ [149, 114, 150, 63, 151, 152, 5, 153, 118, 119, 120, 121, 122, 123, 124, 552, 553, 554, 555, 556, 557, 558, 559] (by decide +kernel) (by decide +kernel)
set_option maxRecDepth 20000 in
theorem gL_law_X5_weir : GoodIn wsL_law (wsV RL 80 RX5 yX5_weir wsX5_weir) := goodIn_app (goodIn_of _ (by decide +kernel)) ggL_law_X5_weir
set_option maxRecDepth 20000 in
theorem ggL_law_L_net : GoodIn wsL_law wsL_net := goodIn_ca (goodIn_ca (goodIn_r _ [156, 88, 132, 157, 158, 159, 2, 160, 94, 95, 137, 138, 16, 161, 99, 100, 101, 102, 103, 104, 162, 163, 164, 15, 165, 31, 166, 106, 107, 28, 108, 37, 167, 168, 169, 170, 171, 38, 39, 40, 41, 549, 550, 551, 560, 561, 562, 563, 564, 578] (by decide +kernel) (by decide +kernel)) (goodIn_sub (fun _ h => List.mem_append_left _ (List.mem_append_left _ (List.mem_append_right _ h))) (by decide +kernel))) (goodIn_sub (fun _ h => List.mem_append_right _ h) (by decide +kernel))
set_option maxRecDepth 20000 in
theorem gL_law_L_net : GoodIn wsL_law (va_wsS RL 81 yL_net wsL_net) := goodIn_app (goodIn_of _ (by decide +kernel)) ggL_law_L_net
set_option maxRecDepth 20000 in
theorem ggL_law_X5_net : GoodIn wsL_law wsX5_net := goodIn_r _ [175, 114, 176, 64, 115, 116, 5, 117, 118, 119, 120, 151, 152, 153, 121, 122, 123, 124, 552, 553, 554, 555, 556, 557, 558, 559] (by decide +kernel) (by decide +kernel)
set_option maxRecDepth 20000 in
theorem gL_law_X5_net : GoodIn wsL_law (wsV RL 83 RX5 yX5_net wsX5_net) := goodIn_app (goodIn_of _ (by decide +kernel)) ggL_law_X5_net
set_option maxRecDepth 20000 in
theorem ggL_law_L_river : GoodIn wsL_law wsL_river := goodIn_ca (goodIn_r _ [179, 88, 180, 181, 182, 2, 183, 94, 95, 99, 100, 101, 102, 103, 104, 184, 185, 186, 187, 188, 189, 190, 20, 16, 140, 191, 192, 193, 19, 194, 55, 195, 196, 197, 198, 106, 107, 28, 108, 37, 105, 162, 163, 164, 15, 165, 31, 166, 199, 200, 201, 202, 203, 53, 48, 49, 549, 550, 551, 560, 561, 562, 563, 564, 565, 566, 567, 568, 569, 570, 571, 572, 573, 574, 575, 576, 577, 578] (by decide +kernel) (by decide +kernel)) (goodIn_sub (fun _ h => List.mem_append_left _ (List.mem_append_left _ (List.mem_append_right _ h))) (by decide +kernel))
set_option maxRecDepth 20000 in
theorem gL_law_L_river : GoodIn wsL_law (va_wsS RL 84 yL_river wsL_river) := goodIn_app (goodIn_of _ (by decide +kernel)) ggL_law_L_river
set_option maxRecDepth 20000 in
theorem ggL_law_X5_river : GoodIn wsL_law wsX5_river := goodIn_r _ [207, 114, 115, 116, 5, 117, 118, 119, 120, 151, 152, 153, 208, 209, 210, 211, 68, 63, 64, 212, 213, 214, 67, 215, 216, 81, 76, 77, 121, 122, 123, 124, 552, 553, 554, 555, 556, 557, 558, 559, 579, 580, 581, 582, 583, 584, 585, 586, 587, 588, 589, 590, 591] (by decide +kernel) (by decide +kernel)
set_option maxRecDepth 20000 in
theorem gL_law_X5_river : GoodIn wsL_law (wsV RL 87 RX5 yX5_river wsX5_river) := goodIn_app (goodIn_of _ (by decide +kernel)) ggL_law_X5_river
set_option maxRecDepth 20000 in
theorem ggL_law_L_launch : GoodIn wsL_law wsL_launch := goodIn_ca (goodIn_ca (goodIn_ca (goodIn_r _ [219, 88, 89, 132, 220, 221, 222, 2, 223, 94, 95, 96, 97, 137, 138, 20, 224, 225, 226, 227, 102, 103, 104, 99, 100, 101, 184, 185, 186, 228, 229, 230, 19, 231, 203, 46, 47, 48, 49, 50, 51, 52, 53, 54, 232, 39, 40, 28, 41, 37, 233, 234, 235, 236, 237, 238, 55, 198, 106, 107, 108, 195, 196, 197, 549, 550, 551, 565, 566, 567, 568, 569, 570, 571, 572, 573, 574, 575, 576, 577, 578] (by decide +kernel) (by decide +kernel)) (goodIn_sub (fun _ h => List.mem_append_left _ (List.mem_append_left _ (List.mem_append_right _ h))) (by decide +kernel))) (goodIn_sub (fun _ h => List.mem_append_left _ (List.mem_append_right _ h)) (by decide +kernel))) (goodIn_sub (fun _ h => List.mem_append_right _ h) (by decide +kernel))
set_option maxRecDepth 20000 in
theorem gL_law_L_launch : GoodIn wsL_law (va_wsS RL 88 yL_launch wsL_launch) := goodIn_app (goodIn_of _ (by decide +kernel)) ggL_law_L_launch
set_option maxRecDepth 20000 in
theorem ggL_law_X5_launch : GoodIn wsL_law wsX5_launch := goodIn_r _ [242, 114, 68, 118, 119, 5, 120, 115, 116, 117, 151, 152, 153, 121, 122, 123, 124, 243, 244, 245, 67, 246, 74, 216, 75, 76, 77, 78, 79, 80, 81, 82, 552, 553, 554, 555, 556, 557, 558, 559, 579, 580, 581, 582, 583, 584, 585, 586, 587, 588, 589, 590, 591] (by decide +kernel) (by decide +kernel)
set_option maxRecDepth 20000 in
theorem gL_law_X5_launch : GoodIn wsL_law (wsV RL 91 RX5 yX5_launch wsX5_launch) := goodIn_app (goodIn_of _ (by decide +kernel)) ggL_law_X5_launch
set_option maxRecDepth 20000 in
theorem ggL_law_L_push : GoodIn wsL_law wsL_push := goodIn_ca (goodIn_ca (goodIn_r _ [249, 88, 132, 250, 251, 252, 2, 253, 94, 95, 137, 138, 20, 254, 255, 256, 257, 258, 19, 259, 203, 103, 104, 99, 100, 101, 102, 260, 261, 262, 263, 53, 264, 198, 106, 107, 28, 108, 37, 105, 265, 266, 267, 268, 48, 49, 235, 236, 237, 238, 46, 55, 195, 196, 197, 232, 39, 40, 41, 549, 550, 551, 565, 566, 567, 568, 569, 570, 571, 572, 573, 574, 575, 576, 577, 578] (by decide +kernel) (by decide +kernel)) (goodIn_sub (fun _ h => List.mem_append_left _ (List.mem_append_left _ (List.mem_append_right _ h))) (by decide +kernel))) (goodIn_sub (fun _ h => List.mem_append_right _ h) (by decide +kernel))
set_option maxRecDepth 20000 in
theorem gL_law_L_push : GoodIn wsL_law (va_wsS RL 92 yL_push wsL_push) := goodIn_app (goodIn_of _ (by decide +kernel)) ggL_law_L_push
set_option maxRecDepth 20000 in
theorem ggL_law_X5_push : GoodIn wsL_law wsX5_push := goodIn_r _ [272, 114, 68, 273, 274, 275, 5, 276, 118, 119, 120, 115, 116, 117, 121, 122, 123, 124, 552, 553, 554, 555, 556, 557, 558, 559, 579, 580, 581, 582, 583, 584, 585, 586, 587, 588, 589, 590, 591] (by decide +kernel) (by decide +kernel)
set_option maxRecDepth 20000 in
theorem gL_law_X5_push : GoodIn wsL_law (wsV RL 94 RX5 yX5_push wsX5_push) := goodIn_app (goodIn_of _ (by decide +kernel)) ggL_law_X5_push
set_option maxRecDepth 20000 in
theorem ggL_law_L_light : GoodIn wsL_law wsL_light := goodIn_ca (goodIn_ca (goodIn_r _ [279, 88, 132, 280, 281, 282, 2, 283, 94, 95, 137, 138, 20, 284, 285, 256, 257, 258, 19, 259, 203, 103, 104, 260, 261, 262, 263, 53, 264, 198, 106, 107, 28, 108, 37, 286, 287, 288, 289, 50, 290, 291, 292, 293, 52, 294, 295, 296, 297, 51, 46, 298, 299, 109, 39, 40, 41, 105, 549, 550, 551, 565, 566, 567, 568, 569, 570, 571, 572, 573, 574, 575, 576, 577, 578] (by decide +kernel) (by decide +kernel)) (goodIn_sub (fun _ h => List.mem_append_left _ (List.mem_append_left _ (List.mem_append_right _ h))) (by decide +kernel))) (goodIn_sub (fun _ h => List.mem_append_right _ h) (by decide +kernel))
set_option maxRecDepth 20000 in
theorem gL_law_L_light : GoodIn wsL_law (va_wsS RL 95 yL_light wsL_light) := goodIn_app (goodIn_of _ (by decide +kernel)) ggL_law_L_light
set_option maxRecDepth 20000 in
theorem ggL_law_X5_light : GoodIn wsL_law wsX5_light := goodIn_r _ [303, 114, 68, 273, 274, 275, 5, 276, 118, 119, 120, 121, 122, 123, 124, 304, 305, 306, 67, 307, 79, 74, 552, 553, 554, 555, 556, 557, 558, 559, 579, 580, 581, 582, 583, 584, 585, 586, 587, 588, 589, 590, 591] (by decide +kernel) (by decide +kernel)
set_option maxRecDepth 20000 in
theorem gL_law_X5_light : GoodIn wsL_law (wsV RL 98 RX5 yX5_light wsX5_light) := goodIn_app (goodIn_of _ (by decide +kernel)) ggL_law_X5_light
set_option maxRecDepth 20000 in
theorem ggL_law_L_blow : GoodIn wsL_law wsL_blow := goodIn_ca (goodIn_ca (goodIn_r _ [310, 88, 132, 311, 312, 313, 2, 314, 94, 95, 137, 138, 20, 284, 285, 256, 257, 258, 19, 259, 203, 103, 104, 260, 261, 262, 263, 53, 264, 198, 106, 107, 28, 108, 37, 315, 291, 292, 293, 52, 109, 39, 40, 41, 105, 549, 550, 551, 565, 566, 567, 568, 569, 570, 571, 572, 573, 574, 575, 576, 577, 578] (by decide +kernel) (by decide +kernel)) (goodIn_sub (fun _ h => List.mem_append_left _ (List.mem_append_left _ (List.mem_append_right _ h))) (by decide +kernel))) (goodIn_sub (fun _ h => List.mem_append_right _ h) (by decide +kernel))
set_option maxRecDepth 20000 in
theorem gL_law_L_blow : GoodIn wsL_law (va_wsS RL 99 yL_blow wsL_blow) := goodIn_app (goodIn_of _ (by decide +kernel)) ggL_law_L_blow
set_option maxRecDepth 20000 in
theorem ggL_law_X5_blow : GoodIn wsL_law wsX5_blow := goodIn_r _ [319, 114, 68, 273, 274, 275, 5, 276, 118, 119, 120, 121, 122, 123, 124, 552, 553, 554, 555, 556, 557, 558, 559, 579, 580, 581, 582, 583, 584, 585, 586, 587, 588, 589, 590, 591] (by decide +kernel) (by decide +kernel)
set_option maxRecDepth 20000 in
theorem gL_law_X5_blow : GoodIn wsL_law (wsV RL 101 RX5 yX5_blow wsX5_blow) := goodIn_app (goodIn_of _ (by decide +kernel)) ggL_law_X5_blow
set_option maxRecDepth 20000 in
theorem ggL_law_L_told : GoodIn wsL_law wsL_told := goodIn_ca (goodIn_r _ [322, 88, 323, 324, 325, 2, 326, 94, 95, 20, 256, 257, 258, 19, 259, 203, 103, 104, 102, 327, 328, 329, 330, 46, 47, 48, 49, 50, 51, 52, 53, 54, 198, 106, 107, 28, 108, 37, 549, 550, 551, 565, 566, 567, 568, 569, 570, 571, 572, 573, 574, 575, 576, 577, 578] (by decide +kernel) (by decide +kernel)) (goodIn_sub (fun _ h => List.mem_append_left _ (List.mem_append_left _ (List.mem_append_right _ h))) (by decide +kernel))
set_option maxRecDepth 20000 in
theorem gL_law_L_told : GoodIn wsL_law (va_wsS RL 102 yL_told wsL_told) := goodIn_app (goodIn_of _ (by decide +kernel)) ggL_law_L_told
set_option maxRecDepth 20000 in
theorem ggL_law_X5_told : GoodIn wsL_law wsX5_told := goodIn_r _ [334, 114, 273, 274, 275, 5, 276, 68, 118, 119, 120, 335, 336, 337, 338, 36, 121, 122, 123, 124, 552, 553, 554, 555, 556, 557, 558, 559, 579, 580, 581, 582, 583, 584, 585, 586, 587, 588, 589, 590, 591] (by decide +kernel) (by decide +kernel)
set_option maxRecDepth 20000 in
theorem gL_law_X5_told : GoodIn wsL_law (wsV RL 104 RX5 yX5_told wsX5_told) := goodIn_app (goodIn_of _ (by decide +kernel)) ggL_law_X5_told
set_option maxRecDepth 20000 in
theorem ggL_law_L_next : GoodIn wsL_law wsL_next := goodIn_ca (goodIn_r _ [341, 88, 342, 343, 344, 2, 345, 94, 95, 20, 256, 257, 258, 19, 259, 203, 103, 104, 346, 347, 348, 349, 255, 16, 140, 260, 261, 262, 263, 53, 264, 198, 106, 107, 28, 108, 37, 105, 549, 550, 551, 565, 566, 567, 568, 569, 570, 571, 572, 573, 574, 575, 576, 577, 560, 561, 562, 563, 564, 578] (by decide +kernel) (by decide +kernel)) (goodIn_sub (fun _ h => List.mem_append_left _ (List.mem_append_left _ (List.mem_append_right _ h))) (by decide +kernel))
set_option maxRecDepth 20000 in
theorem gL_law_L_next : GoodIn wsL_law (va_wsS RL 105 yL_next wsL_next) := goodIn_app (goodIn_of _ (by decide +kernel)) ggL_law_L_next
set_option maxRecDepth 20000 in
theorem ggL_law_X5_next : GoodIn wsL_law wsX5_next := goodIn_r _ [353, 114, 273, 274, 275, 5, 276, 68, 118, 119, 120, 354, 355, 356, 357, 63, 121, 122, 123, 124, 552, 553, 554, 555, 556, 557, 558, 559, 579, 580, 581, 582, 583, 584, 585, 586, 587, 588, 589, 590, 591] (by decide +kernel) (by decide +kernel)
set_option maxRecDepth 20000 in
theorem gL_law_X5_next : GoodIn wsL_law (wsV RL 107 RX5 yX5_next wsX5_next) := goodIn_app (goodIn_of _ (by decide +kernel)) ggL_law_X5_next
set_option maxRecDepth 20000 in
theorem ggL_law_L_count : GoodIn wsL_law wsL_count := goodIn_ca (goodIn_r _ [360, 88, 361, 362, 363, 2, 364, 94, 95, 102, 103, 104, 365, 366, 367, 368, 20, 369, 224, 16, 139, 161, 370, 371, 372, 19, 373, 203, 374, 375, 376, 377, 53, 52, 47, 198, 106, 107, 28, 108, 37, 549, 550, 551, 565, 566, 567, 568, 569, 570, 571, 572, 573, 574, 575, 576, 577, 560, 561, 562, 563, 564, 578] (by decide +kernel) (by decide +kernel)) (goodIn_sub (fun _ h => List.mem_append_left _ (List.mem_append_left _ (List.mem_append_right _ h))) (by decide +kernel))
set_option maxRecDepth 20000 in
theorem gL_law_L_count : GoodIn wsL_law (va_wsS RL 108 yL_count wsL_count) := goodIn_app (goodIn_of _ (by decide +kernel)) ggL_law_L_count
set_option maxRecDepth 20000 in
theorem ggL_law_X5_count : GoodIn wsL_law wsX5_count := goodIn_r _ [381, 114, 68, 118, 119, 5, 120, 382, 383, 384, 67, 385, 36, 386, 216, 72, 81, 80, 75, 121, 122, 123, 124, 552, 553, 554, 555, 556, 557, 558, 559, 579, 580, 581, 582, 583, 584, 585, 586, 587, 588, 589, 590, 591] (by decide +kernel) (by decide +kernel)
set_option maxRecDepth 20000 in
theorem gL_law_X5_count : GoodIn wsL_law (wsV RL 110 RX5 yX5_count wsX5_count) := goodIn_app (goodIn_of _ (by decide +kernel)) ggL_law_X5_count
set_option maxRecDepth 20000 in
theorem ggL_law_L_pass : GoodIn wsL_law wsL_pass := goodIn_ca (goodIn_r _ [389, 89, 390, 391, 392, 2, 393, 96, 97, 20, 16, 102, 103, 104, 370, 371, 372, 19, 373, 203, 374, 375, 376, 377, 53, 52, 47, 198, 106, 107, 28, 108, 37, 394, 395, 396, 397, 56, 398, 399, 400, 401, 402, 49, 48, 403, 261, 262, 263, 264, 257, 258, 259, 232, 39, 40, 41, 404, 405, 406, 407, 408, 409, 410, 411, 412, 413, 46, 55, 195, 196, 197, 414, 266, 267, 268, 235, 236, 237, 238, 415, 416, 417, 418, 54, 419, 420, 421, 422, 51, 294, 295, 296, 297, 298, 299, 423, 163, 164, 15, 165, 31, 166, 424, 425, 426, 427, 50, 290, 291, 292, 293, 549, 550, 551, 565, 566, 567, 568, 569, 570, 571, 572, 573, 574, 575, 576, 577, 578, 560, 561, 562, 563, 564] (by decide +kernel) (by decide +kernel)) (goodIn_sub (fun _ h => List.mem_append_left _ (List.mem_append_right _ h)) (by decide +kernel))
set_option maxRecDepth 20000 in
theorem gL_law_L_pass : GoodIn wsL_law (va_wsS RL 111 yL_pass wsL_pass) := goodIn_app (goodIn_of _ (by decide +kernel)) ggL_law_L_pass
set_option maxRecDepth 20000 in
theorem ggL_law_X5_pass : GoodIn wsL_law wsX5_pass := goodIn_r _ [431, 114, 68, 118, 119, 5, 120, 121, 122, 123, 124, 382, 383, 384, 67, 385, 36, 386, 216, 72, 81, 80, 75, 432, 433, 434, 435, 83, 78, 436, 437, 438, 439, 440, 441, 442, 443, 77, 76, 444, 445, 446, 447, 448, 449, 450, 451, 74, 452, 453, 454, 455, 82, 456, 457, 458, 459, 79, 460, 461, 462, 463, 464, 213, 214, 215, 465, 305, 306, 307, 552, 553, 554, 555, 556, 557, 558, 559, 579, 580, 581, 582, 583, 584, 585, 586, 587, 588, 589, 590, 591] (by decide +kernel) (by decide +kernel)
set_option maxRecDepth 20000 in
theorem gL_law_X5_pass : GoodIn wsL_law (wsV RL 113 RX5 yX5_pass wsX5_pass) := goodIn_app (goodIn_of _ (by decide +kernel)) ggL_law_X5_pass
set_option maxRecDepth 20000 in
theorem ggL_law_L_burns : GoodIn wsL_law wsL_burns := goodIn_ca (goodIn_r _ [468, 88, 469, 470, 471, 2, 472, 94, 95, 20, 21, 16, 256, 257, 258, 19, 259, 203, 103, 104, 473, 474, 475, 476, 46, 47, 48, 49, 50, 51, 52, 53, 54, 55, 398, 477, 478, 479, 28, 480, 37, 481, 106, 107, 108, 315, 291, 292, 293, 264, 198, 394, 395, 396, 397, 56, 399, 400, 401, 402, 403, 261, 262, 263, 232, 39, 40, 41, 404, 405, 406, 407, 408, 409, 410, 411, 412, 413, 195, 196, 197, 414, 266, 267, 268, 235, 236, 237, 238, 415, 416, 417, 418, 419, 420, 421, 422, 294, 295, 296, 297, 298, 299, 423, 163, 164, 15, 165, 31, 166, 424, 425, 426, 427, 290, 549, 550, 551, 565, 566, 567, 568, 569, 570, 571, 572, 573, 574, 575, 576, 577, 578, 560, 561, 562, 563, 564] (by decide +kernel) (by decide +kernel)) (goodIn_sub (fun _ h => List.mem_append_left _ (List.mem_append_left _ (List.mem_append_right _ h))) (by decide +kernel))
set_option maxRecDepth 20000 in
theorem gL_law_L_burns : GoodIn wsL_law (va_wsS RL 114 yL_burns wsL_burns) := goodIn_app (goodIn_of _ (by decide +kernel)) ggL_law_L_burns
set_option maxRecDepth 20000 in
theorem ggL_law_X5_burns : GoodIn wsL_law wsX5_burns := goodIn_r _ [485, 114, 69, 68, 273, 274, 275, 5, 276, 118, 119, 120, 121, 122, 123, 124, 486, 487, 488, 67, 489, 386, 216, 74, 75, 76, 77, 78, 79, 80, 81, 82, 490, 491, 492, 493, 494, 495, 496, 497, 432, 433, 434, 435, 83, 436, 437, 438, 439, 440, 441, 442, 443, 444, 445, 446, 447, 72, 448, 449, 450, 451, 452, 453, 454, 455, 456, 457, 458, 459, 460, 461, 462, 463, 464, 213, 214, 215, 465, 305, 306, 307, 552, 553, 554, 555, 556, 557, 558, 559, 579, 580, 581, 582, 583, 584, 585, 586, 587, 588, 589, 590, 591] (by decide +kernel) (by decide +kernel)
set_option maxRecDepth 20000 in
theorem gL_law_X5_burns : GoodIn wsL_law (wsV RL 116 RX5 yX5_burns wsX5_burns) := goodIn_app (goodIn_of _ (by decide +kernel)) ggL_law_X5_burns
set_option maxRecDepth 20000 in
theorem ggL_law_L_foresee : GoodIn wsL_law wsL_foresee := goodIn_ca (goodIn_ca (goodIn_r _ [500, 89, 88, 501, 502, 503, 2, 504, 96, 97, 94, 95, 21, 20, 16, 102, 103, 104, 473, 474, 475, 19, 476, 46, 47, 48, 49, 50, 51, 52, 53, 54, 55, 203, 398, 477, 478, 479, 28, 480, 37, 481, 106, 107, 108, 394, 395, 396, 397, 56, 399, 400, 401, 402, 403, 261, 262, 263, 264, 257, 258, 259, 198, 232, 39, 40, 41, 404, 405, 406, 407, 408, 409, 410, 411, 412, 413, 195, 196, 197, 414, 266, 267, 268, 235, 236, 237, 238, 415, 416, 417, 418, 419, 420, 421, 422, 294, 295, 296, 297, 298, 299, 423, 163, 164, 15, 165, 31, 166, 424, 425, 426, 427, 290, 291, 292, 293, 370, 371, 372, 373, 374, 375, 376, 377, 549, 550, 551, 565, 566, 567, 568, 569, 570, 571, 572, 573, 574, 575, 576, 577, 578, 560, 561, 562, 563, 564] (by decide +kernel) (by decide +kernel)) (goodIn_sub (fun _ h => List.mem_append_left _ (List.mem_append_right _ h)) (by decide +kernel))) (goodIn_sub (fun _ h => List.mem_append_left _ (List.mem_append_left _ (List.mem_append_right _ h))) (by decide +kernel))
set_option maxRecDepth 20000 in
theorem gL_law_L_foresee : GoodIn wsL_law (va_wsS RL 117 yL_foresee wsL_foresee) := goodIn_app (goodIn_of _ (by decide +kernel)) ggL_law_L_foresee
set_option maxRecDepth 20000 in
theorem ggL_law_X5_foresee : GoodIn wsL_law wsX5_foresee := goodIn_r _ [508, 114, 69, 68, 118, 119, 5, 120, 121, 122, 123, 124, 486, 487, 488, 67, 489, 386, 216, 74, 75, 76, 77, 78, 79, 80, 81, 82, 490, 491, 492, 493, 494, 495, 496, 497, 432, 433, 434, 435, 83, 436, 437, 438, 439, 440, 441, 442, 443, 444, 445, 446, 447, 72, 448, 449, 450, 451, 452, 453, 454, 455, 456, 457, 458, 459, 460, 461, 462, 463, 464, 213, 214, 215, 465, 305, 306, 307, 382, 383, 384, 385, 36, 552, 553, 554, 555, 556, 557, 558, 559, 579, 580, 581, 582, 583, 584, 585, 586, 587, 588, 589, 590, 591] (by decide +kernel) (by decide +kernel)
set_option maxRecDepth 20000 in
theorem gL_law_X5_foresee : GoodIn wsL_law (wsV RL 119 RX5 yX5_foresee wsX5_foresee) := goodIn_app (goodIn_of _ (by decide +kernel)) ggL_law_X5_foresee
set_option maxRecDepth 20000 in
theorem ggL_law_L_advise : GoodIn wsL_law wsL_advise := goodIn_ca (goodIn_r _ [511, 88, 512, 513, 514, 2, 515, 94, 95, 225, 226, 227, 102, 103, 104, 516, 517, 518, 519, 21, 20, 16, 520, 473, 474, 475, 19, 476, 46, 47, 48, 49, 50, 51, 52, 53, 54, 55, 203, 398, 477, 478, 479, 28, 480, 37, 481, 106, 107, 108, 228, 229, 230, 231, 232, 39, 40, 41, 233, 234, 235, 236, 237, 238, 198, 195, 196, 197, 315, 291, 292, 293, 264, 257, 258, 259, 394, 395, 396, 397, 56, 399, 400, 401, 402, 403, 261, 262, 263, 404, 405, 406, 407, 408, 409, 410, 411, 412, 413, 414, 266, 267, 268, 415, 416, 417, 418, 419, 420, 421, 422, 294, 295, 296, 297, 298, 299, 423, 163, 164, 15, 165, 31, 166, 424, 425, 426, 427, 290, 105, 549, 550, 551, 565, 566, 567, 568, 569, 570, 571, 572, 573, 574, 575, 576, 577, 578, 560, 561, 562, 563, 564] (by decide +kernel) (by decide +kernel)) (goodIn_sub (fun _ h => List.mem_append_left _ (List.mem_append_left _ (List.mem_append_right _ h))) (by decide +kernel))
set_option maxRecDepth 20000 in
theorem gL_law_L_advise : GoodIn wsL_law (va_wsS RL 120 yL_advise wsL_advise) := goodIn_app (goodIn_of _ (by decide +kernel)) ggL_law_L_advise
set_option maxRecDepth 20000 in
theorem ggL_law_X5_advise : GoodIn wsL_law wsX5_advise := goodIn_r _ [524, 114, 118, 119, 5, 120, 121, 122, 123, 124, 525, 526, 527, 528, 69, 68, 486, 487, 488, 67, 489, 386, 216, 74, 75, 76, 77, 78, 79, 80, 81, 82, 490, 491, 492, 493, 494, 495, 496, 497, 243, 244, 245, 246, 432, 433, 434, 435, 83, 436, 437, 438, 439, 440, 441, 442, 443, 444, 445, 446, 447, 72, 448, 449, 450, 451, 452, 453, 454, 455, 456, 457, 458, 459, 460, 461, 462, 463, 464, 213, 214, 215, 465, 305, 306, 307, 552, 553, 554, 555, 556, 557, 558, 559, 579, 580, 581, 582, 583, 584, 585, 586, 587, 588, 589, 590, 591] (by decide +kernel) (by decide +kernel)
set_option maxRecDepth 20000 in
theorem gL_law_X5_advise : GoodIn wsL_law (wsV RL 122 RX5 yX5_advise wsX5_advise) := goodIn_app (goodIn_of _ (by decide +kernel)) ggL_law_X5_advise
set_option maxRecDepth 20000 in
theorem ggL_law_X3_mean : GoodIn wsL_law wsX3_mean := goodIn_r _ [532, 20, 224, 255, 260, 261, 262, 19, 263, 53, 264, 257, 258, 259, 203, 103, 2, 104, 198, 106, 107, 28, 108, 37, 105, 549, 550, 551, 565, 566, 567, 568, 569, 570, 571, 572, 573, 574, 575, 576, 577, 578] (by decide +kernel) (by decide +kernel)
set_option maxRecDepth 20000 in
theorem gL_law_X3_mean : GoodIn wsL_law (wsV RL 123 RX3 yX3_mean wsX3_mean) := goodIn_app (goodIn_of _ (by decide +kernel)) ggL_law_X3_mean
set_option maxRecDepth 20000 in
theorem ggL_law_X5_mean : GoodIn wsL_law wsX5_mean := goodIn_r _ [536, 114, 68, 382, 383, 384, 67, 385, 36, 386, 216, 72, 81, 80, 75, 552, 553, 554, 555, 556, 557, 558, 559, 579, 580, 581, 582, 583, 584, 585, 586, 587, 588, 589, 590, 591] (by decide +kernel) (by decide +kernel)
set_option maxRecDepth 20000 in
theorem gL_law_X5_mean : GoodIn wsL_law (wsV RL 127 RX5 yX5_mean wsX5_mean) := goodIn_app (goodIn_of _ (by decide +kernel)) ggL_law_X5_mean
set_option maxRecDepth 20000 in
theorem ggL_law_X3_digest : GoodIn wsL_law wsX3_digest := goodIn_r _ [540, 541, 542, 16, 98, 20, 224, 365, 366, 367, 2, 368, 369, 139, 161, 370, 371, 372, 19, 373, 203, 374, 375, 376, 377, 53, 52, 47, 198, 106, 107, 28, 108, 37, 105, 187, 188, 189, 190, 140, 191, 192, 193, 194, 55, 195, 196, 197, 162, 163, 164, 15, 165, 31, 166, 199, 200, 201, 202, 48, 49, 327, 328, 329, 330, 46, 50, 51, 54, 346, 347, 348, 349, 255, 260, 261, 262, 263, 264, 257, 258, 259, 103, 104, 549, 550, 551, 560, 561, 562, 563, 564, 565, 566, 567, 568, 569, 570, 571, 572, 573, 574, 575, 576, 577, 578] (by decide +kernel) (by decide +kernel)
set_option maxRecDepth 20000 in
theorem gL_law_X3_digest : GoodIn wsL_law (wsV RL 128 RX3 yX3_digest wsX3_digest) := goodIn_app (goodIn_of _ (by decide +kernel)) ggL_law_X3_digest
set_option maxRecDepth 20000 in
theorem ggL_law_X5_digest : GoodIn wsL_law wsX5_digest := goodIn_r _ [546, 114, 547, 548, 68, 62, 382, 383, 384, 67, 385, 36, 386, 216, 72, 81, 80, 75, 208, 209, 210, 5, 211, 63, 64, 212, 213, 214, 215, 76, 77, 335, 336, 337, 338, 354, 355, 356, 357, 552, 553, 554, 555, 556, 557, 558, 559, 579, 580, 581, 582, 583, 584, 585, 586, 587, 588, 589, 590, 591] (by decide +kernel) (by decide +kernel)
set_option maxRecDepth 20000 in
theorem gL_law_X5_digest : GoodIn wsL_law (wsV RL 132 RX5 yX5_digest wsX5_digest) := goodIn_app (goodIn_of _ (by decide +kernel)) ggL_law_X5_digest
theorem dL_law_0 : decode cL_law 0 = .ok (.new 8, 3) := by decide +kernel
theorem dL_law_3 : decode cL_law 3 = .ok (.dup, 1) := by decide +kernel
theorem dL_law_4 : decode cL_law 4 = .ok (.invokespecial 64, 3) := by decide +kernel
theorem dL_law_7 : decode cL_law 7 = .ok (.astore_n 1, 1) := by decide +kernel
theorem dL_law_8 : decode cL_law 8 = .ok (.new 65, 3) := by decide +kernel
theorem dL_law_11 : decode cL_law 11 = .ok (.dup, 1) := by decide +kernel
theorem dL_law_12 : decode cL_law 12 = .ok (.invokespecial 67, 3) := by decide +kernel
theorem dL_law_15 : decode cL_law 15 = .ok (.astore_n 2, 1) := by decide +kernel
theorem dL_law_16 : decode cL_law 16 = .ok (.iconst 1, 1) := by decide +kernel
theorem dL_law_17 : decode cL_law 17 = .ok (.newarray .long, 2) := by decide +kernel
theorem dL_law_19 : decode cL_law 19 = .ok (.astore_n 3, 1) := by decide +kernel
theorem dL_law_20 : decode cL_law 20 = .ok (.iconst 0, 1) := by decide +kernel
theorem dL_law_21 : decode cL_law 21 = .ok (.istore 4, 2) := by decide +kernel
theorem dL_law_23 : decode cL_law 23 = .ok (.iload 4, 2) := by decide +kernel
theorem dL_law_25 : decode cL_law 25 = .ok (.aload_n 0, 1) := by decide +kernel
theorem dL_law_26 : decode cL_law 26 = .ok (.arraylength, 1) := by decide +kernel
theorem dL_law_27 : decode cL_law 27 = .ok (.iconst 5, 1) := by decide +kernel
theorem dL_law_28 : decode cL_law 28 = .ok (.isub, 1) := by decide +kernel
theorem dL_law_29 : decode cL_law 29 = .ok (.if_icmp .gt 1124, 3) := by decide +kernel
theorem dL_law_32 : decode cL_law 32 = .ok (.aload_n 0, 1) := by decide +kernel
theorem dL_law_33 : decode cL_law 33 = .ok (.iload 4, 2) := by decide +kernel
theorem dL_law_35 : decode cL_law 35 = .ok (.iaload, 1) := by decide +kernel
theorem dL_law_36 : decode cL_law 36 = .ok (.bipush 31, 2) := by decide +kernel
theorem dL_law_38 : decode cL_law 38 = .ok (.iand, 1) := by decide +kernel
theorem dL_law_39 : decode cL_law 39 = .ok (.tableswitch 1108 0 16 #[81, 149, 217, 285, 365, 457, 525, 581, 637, 705, 761, 817, 873, 929, 997, 1053, 1094], 81) := by decide +kernel
theorem dL_law_120 : decode cL_law 120 = .ok (.aload_n 1, 1) := by decide +kernel
theorem dL_law_121 : decode cL_law 121 = .ok (.aload_n 0, 1) := by decide +kernel
theorem dL_law_122 : decode cL_law 122 = .ok (.iload 4, 2) := by decide +kernel
theorem dL_law_124 : decode cL_law 124 = .ok (.iconst 1, 1) := by decide +kernel
theorem dL_law_125 : decode cL_law 125 = .ok (.iadd, 1) := by decide +kernel
theorem dL_law_126 : decode cL_law 126 = .ok (.iaload, 1) := by decide +kernel
theorem dL_law_127 : decode cL_law 127 = .ok (.aload_n 0, 1) := by decide +kernel
theorem dL_law_128 : decode cL_law 128 = .ok (.iload 4, 2) := by decide +kernel
theorem dL_law_130 : decode cL_law 130 = .ok (.iconst 2, 1) := by decide +kernel
theorem dL_law_131 : decode cL_law 131 = .ok (.iadd, 1) := by decide +kernel
theorem dL_law_132 : decode cL_law 132 = .ok (.iaload, 1) := by decide +kernel
theorem dL_law_133 : decode cL_law 133 = .ok (.aload_n 3, 1) := by decide +kernel
theorem dL_law_134 : decode cL_law 134 = .ok (.invokestatic 68, 3) := by decide +kernel
theorem dL_law_137 : decode cL_law 137 = .ok (.istore 5, 2) := by decide +kernel
theorem dL_law_139 : decode cL_law 139 = .ok (.aload_n 2, 1) := by decide +kernel
theorem dL_law_140 : decode cL_law 140 = .ok (.aload_n 0, 1) := by decide +kernel
theorem dL_law_141 : decode cL_law 141 = .ok (.iload 4, 2) := by decide +kernel
theorem dL_law_143 : decode cL_law 143 = .ok (.iconst 1, 1) := by decide +kernel
theorem dL_law_144 : decode cL_law 144 = .ok (.iadd, 1) := by decide +kernel
theorem dL_law_145 : decode cL_law 145 = .ok (.iaload, 1) := by decide +kernel
theorem dL_law_146 : decode cL_law 146 = .ok (.aload_n 0, 1) := by decide +kernel
theorem dL_law_147 : decode cL_law 147 = .ok (.iload 4, 2) := by decide +kernel
theorem dL_law_149 : decode cL_law 149 = .ok (.iconst 2, 1) := by decide +kernel
theorem dL_law_150 : decode cL_law 150 = .ok (.iadd, 1) := by decide +kernel
theorem dL_law_151 : decode cL_law 151 = .ok (.iaload, 1) := by decide +kernel
theorem dL_law_152 : decode cL_law 152 = .ok (.invokevirtual 73, 3) := by decide +kernel
theorem dL_law_155 : decode cL_law 155 = .ok (.istore 6, 2) := by decide +kernel
theorem dL_law_157 : decode cL_law 157 = .ok (.aload_n 2, 1) := by decide +kernel
theorem dL_law_158 : decode cL_law 158 = .ok (.invokevirtual 74, 3) := by decide +kernel
theorem dL_law_161 : decode cL_law 161 = .ok (.iload 5, 2) := by decide +kernel
theorem dL_law_163 : decode cL_law 163 = .ok (.if_icmp .eq 5, 3) := by decide +kernel
theorem dL_law_166 : decode cL_law 166 = .ok (.iconst 0, 1) := by decide +kernel
theorem dL_law_167 : decode cL_law 167 = .ok (.ireturn, 1) := by decide +kernel
theorem dL_law_168 : decode cL_law 168 = .ok (.iload 5, 2) := by decide +kernel
theorem dL_law_170 : decode cL_law 170 = .ok (.ifCond .ne 15, 3) := by decide +kernel
theorem dL_law_173 : decode cL_law 173 = .ok (.aload_n 3, 1) := by decide +kernel
theorem dL_law_174 : decode cL_law 174 = .ok (.iconst 0, 1) := by decide +kernel
theorem dL_law_175 : decode cL_law 175 = .ok (.laload, 1) := by decide +kernel
theorem dL_law_176 : decode cL_law 176 = .ok (.iload 6, 2) := by decide +kernel
theorem dL_law_178 : decode cL_law 178 = .ok (.i2l, 1) := by decide +kernel
theorem dL_law_179 : decode cL_law 179 = .ok (.lcmp, 1) := by decide +kernel
theorem dL_law_180 : decode cL_law 180 = .ok (.ifCond .eq 5, 3) := by decide +kernel
theorem dL_law_183 : decode cL_law 183 = .ok (.iconst 0, 1) := by decide +kernel
theorem dL_law_184 : decode cL_law 184 = .ok (.ireturn, 1) := by decide +kernel
theorem dL_law_185 : decode cL_law 185 = .ok (.goto 962, 3) := by decide +kernel
theorem dL_law_188 : decode cL_law 188 = .ok (.aload_n 1, 1) := by decide +kernel
theorem dL_law_189 : decode cL_law 189 = .ok (.aload_n 0, 1) := by decide +kernel
theorem dL_law_190 : decode cL_law 190 = .ok (.iload 4, 2) := by decide +kernel
theorem dL_law_192 : decode cL_law 192 = .ok (.iconst 1, 1) := by decide +kernel
theorem dL_law_193 : decode cL_law 193 = .ok (.iadd, 1) := by decide +kernel
theorem dL_law_194 : decode cL_law 194 = .ok (.iaload, 1) := by decide +kernel
theorem dL_law_195 : decode cL_law 195 = .ok (.aload_n 0, 1) := by decide +kernel
theorem dL_law_196 : decode cL_law 196 = .ok (.iload 4, 2) := by decide +kernel
theorem dL_law_198 : decode cL_law 198 = .ok (.iconst 2, 1) := by decide +kernel
theorem dL_law_199 : decode cL_law 199 = .ok (.iadd, 1) := by decide +kernel
theorem dL_law_200 : decode cL_law 200 = .ok (.iaload, 1) := by decide +kernel
theorem dL_law_201 : decode cL_law 201 = .ok (.aload_n 3, 1) := by decide +kernel
theorem dL_law_202 : decode cL_law 202 = .ok (.invokestatic 78, 3) := by decide +kernel
theorem dL_law_205 : decode cL_law 205 = .ok (.istore 5, 2) := by decide +kernel
theorem dL_law_207 : decode cL_law 207 = .ok (.aload_n 2, 1) := by decide +kernel
theorem dL_law_208 : decode cL_law 208 = .ok (.aload_n 0, 1) := by decide +kernel
theorem dL_law_209 : decode cL_law 209 = .ok (.iload 4, 2) := by decide +kernel
theorem dL_law_211 : decode cL_law 211 = .ok (.iconst 1, 1) := by decide +kernel
theorem dL_law_212 : decode cL_law 212 = .ok (.iadd, 1) := by decide +kernel
theorem dL_law_213 : decode cL_law 213 = .ok (.iaload, 1) := by decide +kernel
theorem dL_law_214 : decode cL_law 214 = .ok (.aload_n 0, 1) := by decide +kernel
theorem dL_law_215 : decode cL_law 215 = .ok (.iload 4, 2) := by decide +kernel
theorem dL_law_217 : decode cL_law 217 = .ok (.iconst 2, 1) := by decide +kernel
theorem dL_law_218 : decode cL_law 218 = .ok (.iadd, 1) := by decide +kernel
theorem dL_law_219 : decode cL_law 219 = .ok (.iaload, 1) := by decide +kernel
theorem dL_law_220 : decode cL_law 220 = .ok (.invokevirtual 80, 3) := by decide +kernel
theorem dL_law_223 : decode cL_law 223 = .ok (.istore 6, 2) := by decide +kernel
theorem dL_law_225 : decode cL_law 225 = .ok (.aload_n 2, 1) := by decide +kernel
theorem dL_law_226 : decode cL_law 226 = .ok (.invokevirtual 74, 3) := by decide +kernel
theorem dL_law_229 : decode cL_law 229 = .ok (.iload 5, 2) := by decide +kernel
theorem dL_law_231 : decode cL_law 231 = .ok (.if_icmp .eq 5, 3) := by decide +kernel
theorem dL_law_234 : decode cL_law 234 = .ok (.iconst 0, 1) := by decide +kernel
theorem dL_law_235 : decode cL_law 235 = .ok (.ireturn, 1) := by decide +kernel
theorem dL_law_236 : decode cL_law 236 = .ok (.iload 5, 2) := by decide +kernel
theorem dL_law_238 : decode cL_law 238 = .ok (.ifCond .ne 15, 3) := by decide +kernel
theorem dL_law_241 : decode cL_law 241 = .ok (.aload_n 3, 1) := by decide +kernel
theorem dL_law_242 : decode cL_law 242 = .ok (.iconst 0, 1) := by decide +kernel
theorem dL_law_243 : decode cL_law 243 = .ok (.laload, 1) := by decide +kernel
theorem dL_law_244 : decode cL_law 244 = .ok (.iload 6, 2) := by decide +kernel
theorem dL_law_246 : decode cL_law 246 = .ok (.i2l, 1) := by decide +kernel
theorem dL_law_247 : decode cL_law 247 = .ok (.lcmp, 1) := by decide +kernel
theorem dL_law_248 : decode cL_law 248 = .ok (.ifCond .eq 5, 3) := by decide +kernel
theorem dL_law_251 : decode cL_law 251 = .ok (.iconst 0, 1) := by decide +kernel
theorem dL_law_252 : decode cL_law 252 = .ok (.ireturn, 1) := by decide +kernel
theorem dL_law_253 : decode cL_law 253 = .ok (.goto 894, 3) := by decide +kernel
theorem dL_law_256 : decode cL_law 256 = .ok (.aload_n 1, 1) := by decide +kernel
theorem dL_law_257 : decode cL_law 257 = .ok (.aload_n 0, 1) := by decide +kernel
theorem dL_law_258 : decode cL_law 258 = .ok (.iload 4, 2) := by decide +kernel
theorem dL_law_260 : decode cL_law 260 = .ok (.iconst 1, 1) := by decide +kernel
theorem dL_law_261 : decode cL_law 261 = .ok (.iadd, 1) := by decide +kernel
theorem dL_law_262 : decode cL_law 262 = .ok (.iaload, 1) := by decide +kernel
theorem dL_law_263 : decode cL_law 263 = .ok (.aload_n 0, 1) := by decide +kernel
theorem dL_law_264 : decode cL_law 264 = .ok (.iload 4, 2) := by decide +kernel
theorem dL_law_266 : decode cL_law 266 = .ok (.iconst 2, 1) := by decide +kernel
theorem dL_law_267 : decode cL_law 267 = .ok (.iadd, 1) := by decide +kernel
theorem dL_law_268 : decode cL_law 268 = .ok (.iaload, 1) := by decide +kernel
theorem dL_law_269 : decode cL_law 269 = .ok (.aload_n 3, 1) := by decide +kernel
theorem dL_law_270 : decode cL_law 270 = .ok (.invokestatic 81, 3) := by decide +kernel
theorem dL_law_273 : decode cL_law 273 = .ok (.istore 5, 2) := by decide +kernel
theorem dL_law_275 : decode cL_law 275 = .ok (.aload_n 2, 1) := by decide +kernel
theorem dL_law_276 : decode cL_law 276 = .ok (.aload_n 0, 1) := by decide +kernel
theorem dL_law_277 : decode cL_law 277 = .ok (.iload 4, 2) := by decide +kernel
theorem dL_law_279 : decode cL_law 279 = .ok (.iconst 1, 1) := by decide +kernel
theorem dL_law_280 : decode cL_law 280 = .ok (.iadd, 1) := by decide +kernel
theorem dL_law_281 : decode cL_law 281 = .ok (.iaload, 1) := by decide +kernel
theorem dL_law_282 : decode cL_law 282 = .ok (.aload_n 0, 1) := by decide +kernel
theorem dL_law_283 : decode cL_law 283 = .ok (.iload 4, 2) := by decide +kernel
theorem dL_law_285 : decode cL_law 285 = .ok (.iconst 2, 1) := by decide +kernel
theorem dL_law_286 : decode cL_law 286 = .ok (.iadd, 1) := by decide +kernel
theorem dL_law_287 : decode cL_law 287 = .ok (.iaload, 1) := by decide +kernel
theorem dL_law_288 : decode cL_law 288 = .ok (.invokevirtual 83, 3) := by decide +kernel
theorem dL_law_291 : decode cL_law 291 = .ok (.istore 6, 2) := by decide +kernel
theorem dL_law_293 : decode cL_law 293 = .ok (.aload_n 2, 1) := by decide +kernel
theorem dL_law_294 : decode cL_law 294 = .ok (.invokevirtual 74, 3) := by decide +kernel
theorem dL_law_297 : decode cL_law 297 = .ok (.iload 5, 2) := by decide +kernel
theorem dL_law_299 : decode cL_law 299 = .ok (.if_icmp .eq 5, 3) := by decide +kernel
theorem dL_law_302 : decode cL_law 302 = .ok (.iconst 0, 1) := by decide +kernel
theorem dL_law_303 : decode cL_law 303 = .ok (.ireturn, 1) := by decide +kernel
theorem dL_law_304 : decode cL_law 304 = .ok (.iload 5, 2) := by decide +kernel
theorem dL_law_306 : decode cL_law 306 = .ok (.ifCond .ne 15, 3) := by decide +kernel
theorem dL_law_309 : decode cL_law 309 = .ok (.aload_n 3, 1) := by decide +kernel
theorem dL_law_310 : decode cL_law 310 = .ok (.iconst 0, 1) := by decide +kernel
theorem dL_law_311 : decode cL_law 311 = .ok (.laload, 1) := by decide +kernel
theorem dL_law_312 : decode cL_law 312 = .ok (.iload 6, 2) := by decide +kernel
theorem dL_law_314 : decode cL_law 314 = .ok (.i2l, 1) := by decide +kernel
theorem dL_law_315 : decode cL_law 315 = .ok (.lcmp, 1) := by decide +kernel
theorem dL_law_316 : decode cL_law 316 = .ok (.ifCond .eq 5, 3) := by decide +kernel
theorem dL_law_319 : decode cL_law 319 = .ok (.iconst 0, 1) := by decide +kernel
theorem dL_law_320 : decode cL_law 320 = .ok (.ireturn, 1) := by decide +kernel
theorem dL_law_321 : decode cL_law 321 = .ok (.goto 826, 3) := by decide +kernel
theorem dL_law_324 : decode cL_law 324 = .ok (.aload_n 1, 1) := by decide +kernel
theorem dL_law_325 : decode cL_law 325 = .ok (.aload_n 0, 1) := by decide +kernel
theorem dL_law_326 : decode cL_law 326 = .ok (.iload 4, 2) := by decide +kernel
theorem dL_law_328 : decode cL_law 328 = .ok (.iconst 1, 1) := by decide +kernel
theorem dL_law_329 : decode cL_law 329 = .ok (.iadd, 1) := by decide +kernel
theorem dL_law_330 : decode cL_law 330 = .ok (.iaload, 1) := by decide +kernel
theorem dL_law_331 : decode cL_law 331 = .ok (.aload_n 0, 1) := by decide +kernel
theorem dL_law_332 : decode cL_law 332 = .ok (.iload 4, 2) := by decide +kernel
theorem dL_law_334 : decode cL_law 334 = .ok (.iconst 2, 1) := by decide +kernel
theorem dL_law_335 : decode cL_law 335 = .ok (.iadd, 1) := by decide +kernel
theorem dL_law_336 : decode cL_law 336 = .ok (.iaload, 1) := by decide +kernel
theorem dL_law_337 : decode cL_law 337 = .ok (.aload_n 0, 1) := by decide +kernel
theorem dL_law_338 : decode cL_law 338 = .ok (.iload 4, 2) := by decide +kernel
theorem dL_law_340 : decode cL_law 340 = .ok (.iconst 3, 1) := by decide +kernel
theorem dL_law_341 : decode cL_law 341 = .ok (.iadd, 1) := by decide +kernel
theorem dL_law_342 : decode cL_law 342 = .ok (.iaload, 1) := by decide +kernel
theorem dL_law_343 : decode cL_law 343 = .ok (.aload_n 3, 1) := by decide +kernel
theorem dL_law_344 : decode cL_law 344 = .ok (.invokestatic 84, 3) := by decide +kernel
theorem dL_law_347 : decode cL_law 347 = .ok (.istore 5, 2) := by decide +kernel
theorem dL_law_349 : decode cL_law 349 = .ok (.aload_n 2, 1) := by decide +kernel
theorem dL_law_350 : decode cL_law 350 = .ok (.aload_n 0, 1) := by decide +kernel
theorem dL_law_351 : decode cL_law 351 = .ok (.iload 4, 2) := by decide +kernel
theorem dL_law_353 : decode cL_law 353 = .ok (.iconst 1, 1) := by decide +kernel
theorem dL_law_354 : decode cL_law 354 = .ok (.iadd, 1) := by decide +kernel
theorem dL_law_355 : decode cL_law 355 = .ok (.iaload, 1) := by decide +kernel
theorem dL_law_356 : decode cL_law 356 = .ok (.aload_n 0, 1) := by decide +kernel
theorem dL_law_357 : decode cL_law 357 = .ok (.iload 4, 2) := by decide +kernel
theorem dL_law_359 : decode cL_law 359 = .ok (.iconst 2, 1) := by decide +kernel
theorem dL_law_360 : decode cL_law 360 = .ok (.iadd, 1) := by decide +kernel
theorem dL_law_361 : decode cL_law 361 = .ok (.iaload, 1) := by decide +kernel
theorem dL_law_362 : decode cL_law 362 = .ok (.aload_n 0, 1) := by decide +kernel
theorem dL_law_363 : decode cL_law 363 = .ok (.iload 4, 2) := by decide +kernel
theorem dL_law_365 : decode cL_law 365 = .ok (.iconst 3, 1) := by decide +kernel
theorem dL_law_366 : decode cL_law 366 = .ok (.iadd, 1) := by decide +kernel
theorem dL_law_367 : decode cL_law 367 = .ok (.iaload, 1) := by decide +kernel
theorem dL_law_368 : decode cL_law 368 = .ok (.invokevirtual 87, 3) := by decide +kernel
theorem dL_law_371 : decode cL_law 371 = .ok (.istore 6, 2) := by decide +kernel
theorem dL_law_373 : decode cL_law 373 = .ok (.aload_n 2, 1) := by decide +kernel
theorem dL_law_374 : decode cL_law 374 = .ok (.invokevirtual 74, 3) := by decide +kernel
theorem dL_law_377 : decode cL_law 377 = .ok (.iload 5, 2) := by decide +kernel
theorem dL_law_379 : decode cL_law 379 = .ok (.if_icmp .eq 5, 3) := by decide +kernel
theorem dL_law_382 : decode cL_law 382 = .ok (.iconst 0, 1) := by decide +kernel
theorem dL_law_383 : decode cL_law 383 = .ok (.ireturn, 1) := by decide +kernel
theorem dL_law_384 : decode cL_law 384 = .ok (.iload 5, 2) := by decide +kernel
theorem dL_law_386 : decode cL_law 386 = .ok (.ifCond .ne 15, 3) := by decide +kernel
theorem dL_law_389 : decode cL_law 389 = .ok (.aload_n 3, 1) := by decide +kernel
theorem dL_law_390 : decode cL_law 390 = .ok (.iconst 0, 1) := by decide +kernel
theorem dL_law_391 : decode cL_law 391 = .ok (.laload, 1) := by decide +kernel
theorem dL_law_392 : decode cL_law 392 = .ok (.iload 6, 2) := by decide +kernel
theorem dL_law_394 : decode cL_law 394 = .ok (.i2l, 1) := by decide +kernel
theorem dL_law_395 : decode cL_law 395 = .ok (.lcmp, 1) := by decide +kernel
theorem dL_law_396 : decode cL_law 396 = .ok (.ifCond .eq 5, 3) := by decide +kernel
theorem dL_law_399 : decode cL_law 399 = .ok (.iconst 0, 1) := by decide +kernel
theorem dL_law_400 : decode cL_law 400 = .ok (.ireturn, 1) := by decide +kernel
theorem dL_law_401 : decode cL_law 401 = .ok (.goto 746, 3) := by decide +kernel
theorem dL_law_404 : decode cL_law 404 = .ok (.aload_n 1, 1) := by decide +kernel
theorem dL_law_405 : decode cL_law 405 = .ok (.aload_n 0, 1) := by decide +kernel
theorem dL_law_406 : decode cL_law 406 = .ok (.iload 4, 2) := by decide +kernel
theorem dL_law_408 : decode cL_law 408 = .ok (.iconst 1, 1) := by decide +kernel
theorem dL_law_409 : decode cL_law 409 = .ok (.iadd, 1) := by decide +kernel
theorem dL_law_410 : decode cL_law 410 = .ok (.iaload, 1) := by decide +kernel
theorem dL_law_411 : decode cL_law 411 = .ok (.aload_n 0, 1) := by decide +kernel
theorem dL_law_412 : decode cL_law 412 = .ok (.iload 4, 2) := by decide +kernel
theorem dL_law_414 : decode cL_law 414 = .ok (.iconst 2, 1) := by decide +kernel
theorem dL_law_415 : decode cL_law 415 = .ok (.iadd, 1) := by decide +kernel
theorem dL_law_416 : decode cL_law 416 = .ok (.iaload, 1) := by decide +kernel
theorem dL_law_417 : decode cL_law 417 = .ok (.aload_n 0, 1) := by decide +kernel
theorem dL_law_418 : decode cL_law 418 = .ok (.iload 4, 2) := by decide +kernel
theorem dL_law_420 : decode cL_law 420 = .ok (.iconst 3, 1) := by decide +kernel
theorem dL_law_421 : decode cL_law 421 = .ok (.iadd, 1) := by decide +kernel
theorem dL_law_422 : decode cL_law 422 = .ok (.iaload, 1) := by decide +kernel
theorem dL_law_423 : decode cL_law 423 = .ok (.aload_n 0, 1) := by decide +kernel
theorem dL_law_424 : decode cL_law 424 = .ok (.iload 4, 2) := by decide +kernel
theorem dL_law_426 : decode cL_law 426 = .ok (.iconst 4, 1) := by decide +kernel
theorem dL_law_427 : decode cL_law 427 = .ok (.iadd, 1) := by decide +kernel
theorem dL_law_428 : decode cL_law 428 = .ok (.iaload, 1) := by decide +kernel
theorem dL_law_429 : decode cL_law 429 = .ok (.aload_n 3, 1) := by decide +kernel
theorem dL_law_430 : decode cL_law 430 = .ok (.invokestatic 88, 3) := by decide +kernel
theorem dL_law_433 : decode cL_law 433 = .ok (.istore 5, 2) := by decide +kernel
theorem dL_law_435 : decode cL_law 435 = .ok (.aload_n 2, 1) := by decide +kernel
theorem dL_law_436 : decode cL_law 436 = .ok (.aload_n 0, 1) := by decide +kernel
theorem dL_law_437 : decode cL_law 437 = .ok (.iload 4, 2) := by decide +kernel
theorem dL_law_439 : decode cL_law 439 = .ok (.iconst 1, 1) := by decide +kernel
theorem dL_law_440 : decode cL_law 440 = .ok (.iadd, 1) := by decide +kernel
theorem dL_law_441 : decode cL_law 441 = .ok (.iaload, 1) := by decide +kernel
theorem dL_law_442 : decode cL_law 442 = .ok (.aload_n 0, 1) := by decide +kernel
theorem dL_law_443 : decode cL_law 443 = .ok (.iload 4, 2) := by decide +kernel
theorem dL_law_445 : decode cL_law 445 = .ok (.iconst 2, 1) := by decide +kernel
theorem dL_law_446 : decode cL_law 446 = .ok (.iadd, 1) := by decide +kernel
theorem dL_law_447 : decode cL_law 447 = .ok (.iaload, 1) := by decide +kernel
theorem dL_law_448 : decode cL_law 448 = .ok (.aload_n 0, 1) := by decide +kernel
theorem dL_law_449 : decode cL_law 449 = .ok (.iload 4, 2) := by decide +kernel
theorem dL_law_451 : decode cL_law 451 = .ok (.iconst 3, 1) := by decide +kernel
theorem dL_law_452 : decode cL_law 452 = .ok (.iadd, 1) := by decide +kernel
theorem dL_law_453 : decode cL_law 453 = .ok (.iaload, 1) := by decide +kernel
theorem dL_law_454 : decode cL_law 454 = .ok (.aload_n 0, 1) := by decide +kernel
theorem dL_law_455 : decode cL_law 455 = .ok (.iload 4, 2) := by decide +kernel
theorem dL_law_457 : decode cL_law 457 = .ok (.iconst 4, 1) := by decide +kernel
theorem dL_law_458 : decode cL_law 458 = .ok (.iadd, 1) := by decide +kernel
theorem dL_law_459 : decode cL_law 459 = .ok (.iaload, 1) := by decide +kernel
theorem dL_law_460 : decode cL_law 460 = .ok (.invokevirtual 91, 3) := by decide +kernel
theorem dL_law_463 : decode cL_law 463 = .ok (.istore 6, 2) := by decide +kernel
theorem dL_law_465 : decode cL_law 465 = .ok (.aload_n 2, 1) := by decide +kernel
theorem dL_law_466 : decode cL_law 466 = .ok (.invokevirtual 74, 3) := by decide +kernel
theorem dL_law_469 : decode cL_law 469 = .ok (.iload 5, 2) := by decide +kernel
theorem dL_law_471 : decode cL_law 471 = .ok (.if_icmp .eq 5, 3) := by decide +kernel
theorem dL_law_474 : decode cL_law 474 = .ok (.iconst 0, 1) := by decide +kernel
theorem dL_law_475 : decode cL_law 475 = .ok (.ireturn, 1) := by decide +kernel
theorem dL_law_476 : decode cL_law 476 = .ok (.iload 5, 2) := by decide +kernel
theorem dL_law_478 : decode cL_law 478 = .ok (.ifCond .ne 15, 3) := by decide +kernel
theorem dL_law_481 : decode cL_law 481 = .ok (.aload_n 3, 1) := by decide +kernel
theorem dL_law_482 : decode cL_law 482 = .ok (.iconst 0, 1) := by decide +kernel
theorem dL_law_483 : decode cL_law 483 = .ok (.laload, 1) := by decide +kernel
theorem dL_law_484 : decode cL_law 484 = .ok (.iload 6, 2) := by decide +kernel
theorem dL_law_486 : decode cL_law 486 = .ok (.i2l, 1) := by decide +kernel
theorem dL_law_487 : decode cL_law 487 = .ok (.lcmp, 1) := by decide +kernel
theorem dL_law_488 : decode cL_law 488 = .ok (.ifCond .eq 5, 3) := by decide +kernel
theorem dL_law_491 : decode cL_law 491 = .ok (.iconst 0, 1) := by decide +kernel
theorem dL_law_492 : decode cL_law 492 = .ok (.ireturn, 1) := by decide +kernel
theorem dL_law_493 : decode cL_law 493 = .ok (.goto 654, 3) := by decide +kernel
theorem dL_law_496 : decode cL_law 496 = .ok (.aload_n 1, 1) := by decide +kernel
theorem dL_law_497 : decode cL_law 497 = .ok (.aload_n 0, 1) := by decide +kernel
theorem dL_law_498 : decode cL_law 498 = .ok (.iload 4, 2) := by decide +kernel
theorem dL_law_500 : decode cL_law 500 = .ok (.iconst 1, 1) := by decide +kernel
theorem dL_law_501 : decode cL_law 501 = .ok (.iadd, 1) := by decide +kernel
theorem dL_law_502 : decode cL_law 502 = .ok (.iaload, 1) := by decide +kernel
theorem dL_law_503 : decode cL_law 503 = .ok (.aload_n 0, 1) := by decide +kernel
theorem dL_law_504 : decode cL_law 504 = .ok (.iload 4, 2) := by decide +kernel
theorem dL_law_506 : decode cL_law 506 = .ok (.iconst 2, 1) := by decide +kernel
theorem dL_law_507 : decode cL_law 507 = .ok (.iadd, 1) := by decide +kernel
theorem dL_law_508 : decode cL_law 508 = .ok (.iaload, 1) := by decide +kernel
theorem dL_law_509 : decode cL_law 509 = .ok (.aload_n 3, 1) := by decide +kernel
theorem dL_law_510 : decode cL_law 510 = .ok (.invokestatic 92, 3) := by decide +kernel
theorem dL_law_513 : decode cL_law 513 = .ok (.istore 5, 2) := by decide +kernel
theorem dL_law_515 : decode cL_law 515 = .ok (.aload_n 2, 1) := by decide +kernel
theorem dL_law_516 : decode cL_law 516 = .ok (.aload_n 0, 1) := by decide +kernel
theorem dL_law_517 : decode cL_law 517 = .ok (.iload 4, 2) := by decide +kernel
theorem dL_law_519 : decode cL_law 519 = .ok (.iconst 1, 1) := by decide +kernel
theorem dL_law_520 : decode cL_law 520 = .ok (.iadd, 1) := by decide +kernel
theorem dL_law_521 : decode cL_law 521 = .ok (.iaload, 1) := by decide +kernel
theorem dL_law_522 : decode cL_law 522 = .ok (.aload_n 0, 1) := by decide +kernel
theorem dL_law_523 : decode cL_law 523 = .ok (.iload 4, 2) := by decide +kernel
theorem dL_law_525 : decode cL_law 525 = .ok (.iconst 2, 1) := by decide +kernel
theorem dL_law_526 : decode cL_law 526 = .ok (.iadd, 1) := by decide +kernel
theorem dL_law_527 : decode cL_law 527 = .ok (.iaload, 1) := by decide +kernel
theorem dL_law_528 : decode cL_law 528 = .ok (.invokevirtual 94, 3) := by decide +kernel
theorem dL_law_531 : decode cL_law 531 = .ok (.istore 6, 2) := by decide +kernel
theorem dL_law_533 : decode cL_law 533 = .ok (.aload_n 2, 1) := by decide +kernel
theorem dL_law_534 : decode cL_law 534 = .ok (.invokevirtual 74, 3) := by decide +kernel
theorem dL_law_537 : decode cL_law 537 = .ok (.iload 5, 2) := by decide +kernel
theorem dL_law_539 : decode cL_law 539 = .ok (.if_icmp .eq 5, 3) := by decide +kernel
theorem dL_law_542 : decode cL_law 542 = .ok (.iconst 0, 1) := by decide +kernel
theorem dL_law_543 : decode cL_law 543 = .ok (.ireturn, 1) := by decide +kernel
theorem dL_law_544 : decode cL_law 544 = .ok (.iload 5, 2) := by decide +kernel
theorem dL_law_546 : decode cL_law 546 = .ok (.ifCond .ne 15, 3) := by decide +kernel
theorem dL_law_549 : decode cL_law 549 = .ok (.aload_n 3, 1) := by decide +kernel
theorem dL_law_550 : decode cL_law 550 = .ok (.iconst 0, 1) := by decide +kernel
theorem dL_law_551 : decode cL_law 551 = .ok (.laload, 1) := by decide +kernel
theorem dL_law_552 : decode cL_law 552 = .ok (.iload 6, 2) := by decide +kernel
theorem dL_law_554 : decode cL_law 554 = .ok (.i2l, 1) := by decide +kernel
theorem dL_law_555 : decode cL_law 555 = .ok (.lcmp, 1) := by decide +kernel
theorem dL_law_556 : decode cL_law 556 = .ok (.ifCond .eq 5, 3) := by decide +kernel
theorem dL_law_559 : decode cL_law 559 = .ok (.iconst 0, 1) := by decide +kernel
theorem dL_law_560 : decode cL_law 560 = .ok (.ireturn, 1) := by decide +kernel
theorem dL_law_561 : decode cL_law 561 = .ok (.goto 586, 3) := by decide +kernel
theorem dL_law_564 : decode cL_law 564 = .ok (.aload_n 1, 1) := by decide +kernel
theorem dL_law_565 : decode cL_law 565 = .ok (.aload_n 0, 1) := by decide +kernel
theorem dL_law_566 : decode cL_law 566 = .ok (.iload 4, 2) := by decide +kernel
theorem dL_law_568 : decode cL_law 568 = .ok (.iconst 1, 1) := by decide +kernel
theorem dL_law_569 : decode cL_law 569 = .ok (.iadd, 1) := by decide +kernel
theorem dL_law_570 : decode cL_law 570 = .ok (.iaload, 1) := by decide +kernel
theorem dL_law_571 : decode cL_law 571 = .ok (.aload_n 3, 1) := by decide +kernel
theorem dL_law_572 : decode cL_law 572 = .ok (.invokestatic 95, 3) := by decide +kernel
theorem dL_law_575 : decode cL_law 575 = .ok (.istore 5, 2) := by decide +kernel
theorem dL_law_577 : decode cL_law 577 = .ok (.aload_n 2, 1) := by decide +kernel
theorem dL_law_578 : decode cL_law 578 = .ok (.aload_n 0, 1) := by decide +kernel
theorem dL_law_579 : decode cL_law 579 = .ok (.iload 4, 2) := by decide +kernel
theorem dL_law_581 : decode cL_law 581 = .ok (.iconst 1, 1) := by decide +kernel
theorem dL_law_582 : decode cL_law 582 = .ok (.iadd, 1) := by decide +kernel
theorem dL_law_583 : decode cL_law 583 = .ok (.iaload, 1) := by decide +kernel
theorem dL_law_584 : decode cL_law 584 = .ok (.invokevirtual 98, 3) := by decide +kernel
theorem dL_law_587 : decode cL_law 587 = .ok (.istore 6, 2) := by decide +kernel
theorem dL_law_589 : decode cL_law 589 = .ok (.aload_n 2, 1) := by decide +kernel
theorem dL_law_590 : decode cL_law 590 = .ok (.invokevirtual 74, 3) := by decide +kernel
theorem dL_law_593 : decode cL_law 593 = .ok (.iload 5, 2) := by decide +kernel
theorem dL_law_595 : decode cL_law 595 = .ok (.if_icmp .eq 5, 3) := by decide +kernel
theorem dL_law_598 : decode cL_law 598 = .ok (.iconst 0, 1) := by decide +kernel
theorem dL_law_599 : decode cL_law 599 = .ok (.ireturn, 1) := by decide +kernel
theorem dL_law_600 : decode cL_law 600 = .ok (.iload 5, 2) := by decide +kernel
theorem dL_law_602 : decode cL_law 602 = .ok (.ifCond .ne 15, 3) := by decide +kernel
theorem dL_law_605 : decode cL_law 605 = .ok (.aload_n 3, 1) := by decide +kernel
theorem dL_law_606 : decode cL_law 606 = .ok (.iconst 0, 1) := by decide +kernel
theorem dL_law_607 : decode cL_law 607 = .ok (.laload, 1) := by decide +kernel
theorem dL_law_608 : decode cL_law 608 = .ok (.iload 6, 2) := by decide +kernel
theorem dL_law_610 : decode cL_law 610 = .ok (.i2l, 1) := by decide +kernel
theorem dL_law_611 : decode cL_law 611 = .ok (.lcmp, 1) := by decide +kernel
theorem dL_law_612 : decode cL_law 612 = .ok (.ifCond .eq 5, 3) := by decide +kernel
theorem dL_law_615 : decode cL_law 615 = .ok (.iconst 0, 1) := by decide +kernel
theorem dL_law_616 : decode cL_law 616 = .ok (.ireturn, 1) := by decide +kernel
theorem dL_law_617 : decode cL_law 617 = .ok (.goto 530, 3) := by decide +kernel
theorem dL_law_620 : decode cL_law 620 = .ok (.aload_n 1, 1) := by decide +kernel
theorem dL_law_621 : decode cL_law 621 = .ok (.aload_n 0, 1) := by decide +kernel
theorem dL_law_622 : decode cL_law 622 = .ok (.iload 4, 2) := by decide +kernel
theorem dL_law_624 : decode cL_law 624 = .ok (.iconst 1, 1) := by decide +kernel
theorem dL_law_625 : decode cL_law 625 = .ok (.iadd, 1) := by decide +kernel
theorem dL_law_626 : decode cL_law 626 = .ok (.iaload, 1) := by decide +kernel
theorem dL_law_627 : decode cL_law 627 = .ok (.aload_n 3, 1) := by decide +kernel
theorem dL_law_628 : decode cL_law 628 = .ok (.invokestatic 99, 3) := by decide +kernel
theorem dL_law_631 : decode cL_law 631 = .ok (.istore 5, 2) := by decide +kernel
theorem dL_law_633 : decode cL_law 633 = .ok (.aload_n 2, 1) := by decide +kernel
theorem dL_law_634 : decode cL_law 634 = .ok (.aload_n 0, 1) := by decide +kernel
theorem dL_law_635 : decode cL_law 635 = .ok (.iload 4, 2) := by decide +kernel
theorem dL_law_637 : decode cL_law 637 = .ok (.iconst 1, 1) := by decide +kernel
theorem dL_law_638 : decode cL_law 638 = .ok (.iadd, 1) := by decide +kernel
theorem dL_law_639 : decode cL_law 639 = .ok (.iaload, 1) := by decide +kernel
theorem dL_law_640 : decode cL_law 640 = .ok (.invokevirtual 101, 3) := by decide +kernel
theorem dL_law_643 : decode cL_law 643 = .ok (.istore 6, 2) := by decide +kernel
theorem dL_law_645 : decode cL_law 645 = .ok (.aload_n 2, 1) := by decide +kernel
theorem dL_law_646 : decode cL_law 646 = .ok (.invokevirtual 74, 3) := by decide +kernel
theorem dL_law_649 : decode cL_law 649 = .ok (.iload 5, 2) := by decide +kernel
theorem dL_law_651 : decode cL_law 651 = .ok (.if_icmp .eq 5, 3) := by decide +kernel
theorem dL_law_654 : decode cL_law 654 = .ok (.iconst 0, 1) := by decide +kernel
theorem dL_law_655 : decode cL_law 655 = .ok (.ireturn, 1) := by decide +kernel
theorem dL_law_656 : decode cL_law 656 = .ok (.iload 5, 2) := by decide +kernel
theorem dL_law_658 : decode cL_law 658 = .ok (.ifCond .ne 15, 3) := by decide +kernel
theorem dL_law_661 : decode cL_law 661 = .ok (.aload_n 3, 1) := by decide +kernel
theorem dL_law_662 : decode cL_law 662 = .ok (.iconst 0, 1) := by decide +kernel
theorem dL_law_663 : decode cL_law 663 = .ok (.laload, 1) := by decide +kernel
theorem dL_law_664 : decode cL_law 664 = .ok (.iload 6, 2) := by decide +kernel
theorem dL_law_666 : decode cL_law 666 = .ok (.i2l, 1) := by decide +kernel
theorem dL_law_667 : decode cL_law 667 = .ok (.lcmp, 1) := by decide +kernel
theorem dL_law_668 : decode cL_law 668 = .ok (.ifCond .eq 5, 3) := by decide +kernel
theorem dL_law_671 : decode cL_law 671 = .ok (.iconst 0, 1) := by decide +kernel
theorem dL_law_672 : decode cL_law 672 = .ok (.ireturn, 1) := by decide +kernel
theorem dL_law_673 : decode cL_law 673 = .ok (.goto 474, 3) := by decide +kernel
theorem dL_law_676 : decode cL_law 676 = .ok (.aload_n 1, 1) := by decide +kernel
theorem dL_law_677 : decode cL_law 677 = .ok (.aload_n 0, 1) := by decide +kernel
theorem dL_law_678 : decode cL_law 678 = .ok (.iload 4, 2) := by decide +kernel
theorem dL_law_680 : decode cL_law 680 = .ok (.iconst 1, 1) := by decide +kernel
theorem dL_law_681 : decode cL_law 681 = .ok (.iadd, 1) := by decide +kernel
theorem dL_law_682 : decode cL_law 682 = .ok (.iaload, 1) := by decide +kernel
theorem dL_law_683 : decode cL_law 683 = .ok (.aload_n 0, 1) := by decide +kernel
theorem dL_law_684 : decode cL_law 684 = .ok (.iload 4, 2) := by decide +kernel
theorem dL_law_686 : decode cL_law 686 = .ok (.iconst 2, 1) := by decide +kernel
theorem dL_law_687 : decode cL_law 687 = .ok (.iadd, 1) := by decide +kernel
theorem dL_law_688 : decode cL_law 688 = .ok (.iaload, 1) := by decide +kernel
theorem dL_law_689 : decode cL_law 689 = .ok (.aload_n 3, 1) := by decide +kernel
theorem dL_law_690 : decode cL_law 690 = .ok (.invokestatic 102, 3) := by decide +kernel
theorem dL_law_693 : decode cL_law 693 = .ok (.istore 5, 2) := by decide +kernel
theorem dL_law_695 : decode cL_law 695 = .ok (.aload_n 2, 1) := by decide +kernel
theorem dL_law_696 : decode cL_law 696 = .ok (.aload_n 0, 1) := by decide +kernel
theorem dL_law_697 : decode cL_law 697 = .ok (.iload 4, 2) := by decide +kernel
theorem dL_law_699 : decode cL_law 699 = .ok (.iconst 1, 1) := by decide +kernel
theorem dL_law_700 : decode cL_law 700 = .ok (.iadd, 1) := by decide +kernel
theorem dL_law_701 : decode cL_law 701 = .ok (.iaload, 1) := by decide +kernel
theorem dL_law_702 : decode cL_law 702 = .ok (.aload_n 0, 1) := by decide +kernel
theorem dL_law_703 : decode cL_law 703 = .ok (.iload 4, 2) := by decide +kernel
theorem dL_law_705 : decode cL_law 705 = .ok (.iconst 2, 1) := by decide +kernel
theorem dL_law_706 : decode cL_law 706 = .ok (.iadd, 1) := by decide +kernel
theorem dL_law_707 : decode cL_law 707 = .ok (.iaload, 1) := by decide +kernel
theorem dL_law_708 : decode cL_law 708 = .ok (.invokevirtual 104, 3) := by decide +kernel
theorem dL_law_711 : decode cL_law 711 = .ok (.istore 6, 2) := by decide +kernel
theorem dL_law_713 : decode cL_law 713 = .ok (.aload_n 2, 1) := by decide +kernel
theorem dL_law_714 : decode cL_law 714 = .ok (.invokevirtual 74, 3) := by decide +kernel
theorem dL_law_717 : decode cL_law 717 = .ok (.iload 5, 2) := by decide +kernel
theorem dL_law_719 : decode cL_law 719 = .ok (.if_icmp .eq 5, 3) := by decide +kernel
theorem dL_law_722 : decode cL_law 722 = .ok (.iconst 0, 1) := by decide +kernel
theorem dL_law_723 : decode cL_law 723 = .ok (.ireturn, 1) := by decide +kernel
theorem dL_law_724 : decode cL_law 724 = .ok (.iload 5, 2) := by decide +kernel
theorem dL_law_726 : decode cL_law 726 = .ok (.ifCond .ne 15, 3) := by decide +kernel
theorem dL_law_729 : decode cL_law 729 = .ok (.aload_n 3, 1) := by decide +kernel
theorem dL_law_730 : decode cL_law 730 = .ok (.iconst 0, 1) := by decide +kernel
theorem dL_law_731 : decode cL_law 731 = .ok (.laload, 1) := by decide +kernel
theorem dL_law_732 : decode cL_law 732 = .ok (.iload 6, 2) := by decide +kernel
theorem dL_law_734 : decode cL_law 734 = .ok (.i2l, 1) := by decide +kernel
theorem dL_law_735 : decode cL_law 735 = .ok (.lcmp, 1) := by decide +kernel
theorem dL_law_736 : decode cL_law 736 = .ok (.ifCond .eq 5, 3) := by decide +kernel
theorem dL_law_739 : decode cL_law 739 = .ok (.iconst 0, 1) := by decide +kernel
theorem dL_law_740 : decode cL_law 740 = .ok (.ireturn, 1) := by decide +kernel
theorem dL_law_741 : decode cL_law 741 = .ok (.goto 406, 3) := by decide +kernel
theorem dL_law_744 : decode cL_law 744 = .ok (.aload_n 1, 1) := by decide +kernel
theorem dL_law_745 : decode cL_law 745 = .ok (.aload_n 0, 1) := by decide +kernel
theorem dL_law_746 : decode cL_law 746 = .ok (.iload 4, 2) := by decide +kernel
theorem dL_law_748 : decode cL_law 748 = .ok (.iconst 1, 1) := by decide +kernel
theorem dL_law_749 : decode cL_law 749 = .ok (.iadd, 1) := by decide +kernel
theorem dL_law_750 : decode cL_law 750 = .ok (.iaload, 1) := by decide +kernel
theorem dL_law_751 : decode cL_law 751 = .ok (.aload_n 3, 1) := by decide +kernel
theorem dL_law_752 : decode cL_law 752 = .ok (.invokestatic 105, 3) := by decide +kernel
theorem dL_law_755 : decode cL_law 755 = .ok (.istore 5, 2) := by decide +kernel
theorem dL_law_757 : decode cL_law 757 = .ok (.aload_n 2, 1) := by decide +kernel
theorem dL_law_758 : decode cL_law 758 = .ok (.aload_n 0, 1) := by decide +kernel
theorem dL_law_759 : decode cL_law 759 = .ok (.iload 4, 2) := by decide +kernel
theorem dL_law_761 : decode cL_law 761 = .ok (.iconst 1, 1) := by decide +kernel
theorem dL_law_762 : decode cL_law 762 = .ok (.iadd, 1) := by decide +kernel
theorem dL_law_763 : decode cL_law 763 = .ok (.iaload, 1) := by decide +kernel
theorem dL_law_764 : decode cL_law 764 = .ok (.invokevirtual 107, 3) := by decide +kernel
theorem dL_law_767 : decode cL_law 767 = .ok (.istore 6, 2) := by decide +kernel
theorem dL_law_769 : decode cL_law 769 = .ok (.aload_n 2, 1) := by decide +kernel
theorem dL_law_770 : decode cL_law 770 = .ok (.invokevirtual 74, 3) := by decide +kernel
theorem dL_law_773 : decode cL_law 773 = .ok (.iload 5, 2) := by decide +kernel
theorem dL_law_775 : decode cL_law 775 = .ok (.if_icmp .eq 5, 3) := by decide +kernel
theorem dL_law_778 : decode cL_law 778 = .ok (.iconst 0, 1) := by decide +kernel
theorem dL_law_779 : decode cL_law 779 = .ok (.ireturn, 1) := by decide +kernel
theorem dL_law_780 : decode cL_law 780 = .ok (.iload 5, 2) := by decide +kernel
theorem dL_law_782 : decode cL_law 782 = .ok (.ifCond .ne 15, 3) := by decide +kernel
theorem dL_law_785 : decode cL_law 785 = .ok (.aload_n 3, 1) := by decide +kernel
theorem dL_law_786 : decode cL_law 786 = .ok (.iconst 0, 1) := by decide +kernel
theorem dL_law_787 : decode cL_law 787 = .ok (.laload, 1) := by decide +kernel
theorem dL_law_788 : decode cL_law 788 = .ok (.iload 6, 2) := by decide +kernel
theorem dL_law_790 : decode cL_law 790 = .ok (.i2l, 1) := by decide +kernel
theorem dL_law_791 : decode cL_law 791 = .ok (.lcmp, 1) := by decide +kernel
theorem dL_law_792 : decode cL_law 792 = .ok (.ifCond .eq 5, 3) := by decide +kernel
theorem dL_law_795 : decode cL_law 795 = .ok (.iconst 0, 1) := by decide +kernel
theorem dL_law_796 : decode cL_law 796 = .ok (.ireturn, 1) := by decide +kernel
theorem dL_law_797 : decode cL_law 797 = .ok (.goto 350, 3) := by decide +kernel
theorem dL_law_800 : decode cL_law 800 = .ok (.aload_n 1, 1) := by decide +kernel
theorem dL_law_801 : decode cL_law 801 = .ok (.aload_n 0, 1) := by decide +kernel
theorem dL_law_802 : decode cL_law 802 = .ok (.iload 4, 2) := by decide +kernel
theorem dL_law_804 : decode cL_law 804 = .ok (.iconst 1, 1) := by decide +kernel
theorem dL_law_805 : decode cL_law 805 = .ok (.iadd, 1) := by decide +kernel
theorem dL_law_806 : decode cL_law 806 = .ok (.iaload, 1) := by decide +kernel
theorem dL_law_807 : decode cL_law 807 = .ok (.aload_n 3, 1) := by decide +kernel
theorem dL_law_808 : decode cL_law 808 = .ok (.invokestatic 108, 3) := by decide +kernel
theorem dL_law_811 : decode cL_law 811 = .ok (.istore 5, 2) := by decide +kernel
theorem dL_law_813 : decode cL_law 813 = .ok (.aload_n 2, 1) := by decide +kernel
theorem dL_law_814 : decode cL_law 814 = .ok (.aload_n 0, 1) := by decide +kernel
theorem dL_law_815 : decode cL_law 815 = .ok (.iload 4, 2) := by decide +kernel
theorem dL_law_817 : decode cL_law 817 = .ok (.iconst 1, 1) := by decide +kernel
theorem dL_law_818 : decode cL_law 818 = .ok (.iadd, 1) := by decide +kernel
theorem dL_law_819 : decode cL_law 819 = .ok (.iaload, 1) := by decide +kernel
theorem dL_law_820 : decode cL_law 820 = .ok (.invokevirtual 110, 3) := by decide +kernel
theorem dL_law_823 : decode cL_law 823 = .ok (.istore 6, 2) := by decide +kernel
theorem dL_law_825 : decode cL_law 825 = .ok (.aload_n 2, 1) := by decide +kernel
theorem dL_law_826 : decode cL_law 826 = .ok (.invokevirtual 74, 3) := by decide +kernel
theorem dL_law_829 : decode cL_law 829 = .ok (.iload 5, 2) := by decide +kernel
theorem dL_law_831 : decode cL_law 831 = .ok (.if_icmp .eq 5, 3) := by decide +kernel
theorem dL_law_834 : decode cL_law 834 = .ok (.iconst 0, 1) := by decide +kernel
theorem dL_law_835 : decode cL_law 835 = .ok (.ireturn, 1) := by decide +kernel
theorem dL_law_836 : decode cL_law 836 = .ok (.iload 5, 2) := by decide +kernel
theorem dL_law_838 : decode cL_law 838 = .ok (.ifCond .ne 15, 3) := by decide +kernel
theorem dL_law_841 : decode cL_law 841 = .ok (.aload_n 3, 1) := by decide +kernel
theorem dL_law_842 : decode cL_law 842 = .ok (.iconst 0, 1) := by decide +kernel
theorem dL_law_843 : decode cL_law 843 = .ok (.laload, 1) := by decide +kernel
theorem dL_law_844 : decode cL_law 844 = .ok (.iload 6, 2) := by decide +kernel
theorem dL_law_846 : decode cL_law 846 = .ok (.i2l, 1) := by decide +kernel
theorem dL_law_847 : decode cL_law 847 = .ok (.lcmp, 1) := by decide +kernel
theorem dL_law_848 : decode cL_law 848 = .ok (.ifCond .eq 5, 3) := by decide +kernel
theorem dL_law_851 : decode cL_law 851 = .ok (.iconst 0, 1) := by decide +kernel
theorem dL_law_852 : decode cL_law 852 = .ok (.ireturn, 1) := by decide +kernel
theorem dL_law_853 : decode cL_law 853 = .ok (.goto 294, 3) := by decide +kernel
theorem dL_law_856 : decode cL_law 856 = .ok (.aload_n 1, 1) := by decide +kernel
theorem dL_law_857 : decode cL_law 857 = .ok (.aload_n 0, 1) := by decide +kernel
theorem dL_law_858 : decode cL_law 858 = .ok (.iload 4, 2) := by decide +kernel
theorem dL_law_860 : decode cL_law 860 = .ok (.iconst 1, 1) := by decide +kernel
theorem dL_law_861 : decode cL_law 861 = .ok (.iadd, 1) := by decide +kernel
theorem dL_law_862 : decode cL_law 862 = .ok (.iaload, 1) := by decide +kernel
theorem dL_law_863 : decode cL_law 863 = .ok (.aload_n 3, 1) := by decide +kernel
theorem dL_law_864 : decode cL_law 864 = .ok (.invokestatic 111, 3) := by decide +kernel
theorem dL_law_867 : decode cL_law 867 = .ok (.istore 5, 2) := by decide +kernel
theorem dL_law_869 : decode cL_law 869 = .ok (.aload_n 2, 1) := by decide +kernel
theorem dL_law_870 : decode cL_law 870 = .ok (.aload_n 0, 1) := by decide +kernel
theorem dL_law_871 : decode cL_law 871 = .ok (.iload 4, 2) := by decide +kernel
theorem dL_law_873 : decode cL_law 873 = .ok (.iconst 1, 1) := by decide +kernel
theorem dL_law_874 : decode cL_law 874 = .ok (.iadd, 1) := by decide +kernel
theorem dL_law_875 : decode cL_law 875 = .ok (.iaload, 1) := by decide +kernel
theorem dL_law_876 : decode cL_law 876 = .ok (.invokevirtual 113, 3) := by decide +kernel
theorem dL_law_879 : decode cL_law 879 = .ok (.istore 6, 2) := by decide +kernel
theorem dL_law_881 : decode cL_law 881 = .ok (.aload_n 2, 1) := by decide +kernel
theorem dL_law_882 : decode cL_law 882 = .ok (.invokevirtual 74, 3) := by decide +kernel
theorem dL_law_885 : decode cL_law 885 = .ok (.iload 5, 2) := by decide +kernel
theorem dL_law_887 : decode cL_law 887 = .ok (.if_icmp .eq 5, 3) := by decide +kernel
theorem dL_law_890 : decode cL_law 890 = .ok (.iconst 0, 1) := by decide +kernel
theorem dL_law_891 : decode cL_law 891 = .ok (.ireturn, 1) := by decide +kernel
theorem dL_law_892 : decode cL_law 892 = .ok (.iload 5, 2) := by decide +kernel
theorem dL_law_894 : decode cL_law 894 = .ok (.ifCond .ne 15, 3) := by decide +kernel
theorem dL_law_897 : decode cL_law 897 = .ok (.aload_n 3, 1) := by decide +kernel
theorem dL_law_898 : decode cL_law 898 = .ok (.iconst 0, 1) := by decide +kernel
theorem dL_law_899 : decode cL_law 899 = .ok (.laload, 1) := by decide +kernel
theorem dL_law_900 : decode cL_law 900 = .ok (.iload 6, 2) := by decide +kernel
theorem dL_law_902 : decode cL_law 902 = .ok (.i2l, 1) := by decide +kernel
theorem dL_law_903 : decode cL_law 903 = .ok (.lcmp, 1) := by decide +kernel
theorem dL_law_904 : decode cL_law 904 = .ok (.ifCond .eq 5, 3) := by decide +kernel
theorem dL_law_907 : decode cL_law 907 = .ok (.iconst 0, 1) := by decide +kernel
theorem dL_law_908 : decode cL_law 908 = .ok (.ireturn, 1) := by decide +kernel
theorem dL_law_909 : decode cL_law 909 = .ok (.goto 238, 3) := by decide +kernel
theorem dL_law_912 : decode cL_law 912 = .ok (.aload_n 1, 1) := by decide +kernel
theorem dL_law_913 : decode cL_law 913 = .ok (.aload_n 0, 1) := by decide +kernel
theorem dL_law_914 : decode cL_law 914 = .ok (.iload 4, 2) := by decide +kernel
theorem dL_law_916 : decode cL_law 916 = .ok (.iconst 1, 1) := by decide +kernel
theorem dL_law_917 : decode cL_law 917 = .ok (.iadd, 1) := by decide +kernel
theorem dL_law_918 : decode cL_law 918 = .ok (.iaload, 1) := by decide +kernel
theorem dL_law_919 : decode cL_law 919 = .ok (.aload_n 3, 1) := by decide +kernel
theorem dL_law_920 : decode cL_law 920 = .ok (.invokestatic 114, 3) := by decide +kernel
theorem dL_law_923 : decode cL_law 923 = .ok (.istore 5, 2) := by decide +kernel
theorem dL_law_925 : decode cL_law 925 = .ok (.aload_n 2, 1) := by decide +kernel
theorem dL_law_926 : decode cL_law 926 = .ok (.aload_n 0, 1) := by decide +kernel
theorem dL_law_927 : decode cL_law 927 = .ok (.iload 4, 2) := by decide +kernel
theorem dL_law_929 : decode cL_law 929 = .ok (.iconst 1, 1) := by decide +kernel
theorem dL_law_930 : decode cL_law 930 = .ok (.iadd, 1) := by decide +kernel
theorem dL_law_931 : decode cL_law 931 = .ok (.iaload, 1) := by decide +kernel
theorem dL_law_932 : decode cL_law 932 = .ok (.invokevirtual 116, 3) := by decide +kernel
theorem dL_law_935 : decode cL_law 935 = .ok (.istore 6, 2) := by decide +kernel
theorem dL_law_937 : decode cL_law 937 = .ok (.aload_n 2, 1) := by decide +kernel
theorem dL_law_938 : decode cL_law 938 = .ok (.invokevirtual 74, 3) := by decide +kernel
theorem dL_law_941 : decode cL_law 941 = .ok (.iload 5, 2) := by decide +kernel
theorem dL_law_943 : decode cL_law 943 = .ok (.if_icmp .eq 5, 3) := by decide +kernel
theorem dL_law_946 : decode cL_law 946 = .ok (.iconst 0, 1) := by decide +kernel
theorem dL_law_947 : decode cL_law 947 = .ok (.ireturn, 1) := by decide +kernel
theorem dL_law_948 : decode cL_law 948 = .ok (.iload 5, 2) := by decide +kernel
theorem dL_law_950 : decode cL_law 950 = .ok (.ifCond .ne 15, 3) := by decide +kernel
theorem dL_law_953 : decode cL_law 953 = .ok (.aload_n 3, 1) := by decide +kernel
theorem dL_law_954 : decode cL_law 954 = .ok (.iconst 0, 1) := by decide +kernel
theorem dL_law_955 : decode cL_law 955 = .ok (.laload, 1) := by decide +kernel
theorem dL_law_956 : decode cL_law 956 = .ok (.iload 6, 2) := by decide +kernel
theorem dL_law_958 : decode cL_law 958 = .ok (.i2l, 1) := by decide +kernel
theorem dL_law_959 : decode cL_law 959 = .ok (.lcmp, 1) := by decide +kernel
theorem dL_law_960 : decode cL_law 960 = .ok (.ifCond .eq 5, 3) := by decide +kernel
theorem dL_law_963 : decode cL_law 963 = .ok (.iconst 0, 1) := by decide +kernel
theorem dL_law_964 : decode cL_law 964 = .ok (.ireturn, 1) := by decide +kernel
theorem dL_law_965 : decode cL_law 965 = .ok (.goto 182, 3) := by decide +kernel
theorem dL_law_968 : decode cL_law 968 = .ok (.aload_n 1, 1) := by decide +kernel
theorem dL_law_969 : decode cL_law 969 = .ok (.aload_n 0, 1) := by decide +kernel
theorem dL_law_970 : decode cL_law 970 = .ok (.iload 4, 2) := by decide +kernel
theorem dL_law_972 : decode cL_law 972 = .ok (.iconst 1, 1) := by decide +kernel
theorem dL_law_973 : decode cL_law 973 = .ok (.iadd, 1) := by decide +kernel
theorem dL_law_974 : decode cL_law 974 = .ok (.iaload, 1) := by decide +kernel
theorem dL_law_975 : decode cL_law 975 = .ok (.aload_n 0, 1) := by decide +kernel
theorem dL_law_976 : decode cL_law 976 = .ok (.iload 4, 2) := by decide +kernel
theorem dL_law_978 : decode cL_law 978 = .ok (.iconst 2, 1) := by decide +kernel
theorem dL_law_979 : decode cL_law 979 = .ok (.iadd, 1) := by decide +kernel
theorem dL_law_980 : decode cL_law 980 = .ok (.iaload, 1) := by decide +kernel
theorem dL_law_981 : decode cL_law 981 = .ok (.aload_n 3, 1) := by decide +kernel
theorem dL_law_982 : decode cL_law 982 = .ok (.invokestatic 117, 3) := by decide +kernel
theorem dL_law_985 : decode cL_law 985 = .ok (.istore 5, 2) := by decide +kernel
theorem dL_law_987 : decode cL_law 987 = .ok (.aload_n 2, 1) := by decide +kernel
theorem dL_law_988 : decode cL_law 988 = .ok (.aload_n 0, 1) := by decide +kernel
theorem dL_law_989 : decode cL_law 989 = .ok (.iload 4, 2) := by decide +kernel
theorem dL_law_991 : decode cL_law 991 = .ok (.iconst 1, 1) := by decide +kernel
theorem dL_law_992 : decode cL_law 992 = .ok (.iadd, 1) := by decide +kernel
theorem dL_law_993 : decode cL_law 993 = .ok (.iaload, 1) := by decide +kernel
theorem dL_law_994 : decode cL_law 994 = .ok (.aload_n 0, 1) := by decide +kernel
theorem dL_law_995 : decode cL_law 995 = .ok (.iload 4, 2) := by decide +kernel
theorem dL_law_997 : decode cL_law 997 = .ok (.iconst 2, 1) := by decide +kernel
theorem dL_law_998 : decode cL_law 998 = .ok (.iadd, 1) := by decide +kernel
theorem dL_law_999 : decode cL_law 999 = .ok (.iaload, 1) := by decide +kernel
theorem dL_law_1000 : decode cL_law 1000 = .ok (.invokevirtual 119, 3) := by decide +kernel
theorem dL_law_1003 : decode cL_law 1003 = .ok (.istore 6, 2) := by decide +kernel
theorem dL_law_1005 : decode cL_law 1005 = .ok (.aload_n 2, 1) := by decide +kernel
theorem dL_law_1006 : decode cL_law 1006 = .ok (.invokevirtual 74, 3) := by decide +kernel
theorem dL_law_1009 : decode cL_law 1009 = .ok (.iload 5, 2) := by decide +kernel
theorem dL_law_1011 : decode cL_law 1011 = .ok (.if_icmp .eq 5, 3) := by decide +kernel
theorem dL_law_1014 : decode cL_law 1014 = .ok (.iconst 0, 1) := by decide +kernel
theorem dL_law_1015 : decode cL_law 1015 = .ok (.ireturn, 1) := by decide +kernel
theorem dL_law_1016 : decode cL_law 1016 = .ok (.iload 5, 2) := by decide +kernel
theorem dL_law_1018 : decode cL_law 1018 = .ok (.ifCond .ne 15, 3) := by decide +kernel
theorem dL_law_1021 : decode cL_law 1021 = .ok (.aload_n 3, 1) := by decide +kernel
theorem dL_law_1022 : decode cL_law 1022 = .ok (.iconst 0, 1) := by decide +kernel
theorem dL_law_1023 : decode cL_law 1023 = .ok (.laload, 1) := by decide +kernel
theorem dL_law_1024 : decode cL_law 1024 = .ok (.iload 6, 2) := by decide +kernel
theorem dL_law_1026 : decode cL_law 1026 = .ok (.i2l, 1) := by decide +kernel
theorem dL_law_1027 : decode cL_law 1027 = .ok (.lcmp, 1) := by decide +kernel
theorem dL_law_1028 : decode cL_law 1028 = .ok (.ifCond .eq 5, 3) := by decide +kernel
theorem dL_law_1031 : decode cL_law 1031 = .ok (.iconst 0, 1) := by decide +kernel
theorem dL_law_1032 : decode cL_law 1032 = .ok (.ireturn, 1) := by decide +kernel
theorem dL_law_1033 : decode cL_law 1033 = .ok (.goto 114, 3) := by decide +kernel
theorem dL_law_1036 : decode cL_law 1036 = .ok (.aload_n 1, 1) := by decide +kernel
theorem dL_law_1037 : decode cL_law 1037 = .ok (.aload_n 0, 1) := by decide +kernel
theorem dL_law_1038 : decode cL_law 1038 = .ok (.iload 4, 2) := by decide +kernel
theorem dL_law_1040 : decode cL_law 1040 = .ok (.iconst 1, 1) := by decide +kernel
theorem dL_law_1041 : decode cL_law 1041 = .ok (.iadd, 1) := by decide +kernel
theorem dL_law_1042 : decode cL_law 1042 = .ok (.iaload, 1) := by decide +kernel
theorem dL_law_1043 : decode cL_law 1043 = .ok (.aload_n 3, 1) := by decide +kernel
theorem dL_law_1044 : decode cL_law 1044 = .ok (.invokestatic 120, 3) := by decide +kernel
theorem dL_law_1047 : decode cL_law 1047 = .ok (.istore 5, 2) := by decide +kernel
theorem dL_law_1049 : decode cL_law 1049 = .ok (.aload_n 2, 1) := by decide +kernel
theorem dL_law_1050 : decode cL_law 1050 = .ok (.aload_n 0, 1) := by decide +kernel
theorem dL_law_1051 : decode cL_law 1051 = .ok (.iload 4, 2) := by decide +kernel
theorem dL_law_1053 : decode cL_law 1053 = .ok (.iconst 1, 1) := by decide +kernel
theorem dL_law_1054 : decode cL_law 1054 = .ok (.iadd, 1) := by decide +kernel
theorem dL_law_1055 : decode cL_law 1055 = .ok (.iaload, 1) := by decide +kernel
theorem dL_law_1056 : decode cL_law 1056 = .ok (.invokevirtual 122, 3) := by decide +kernel
theorem dL_law_1059 : decode cL_law 1059 = .ok (.istore 6, 2) := by decide +kernel
theorem dL_law_1061 : decode cL_law 1061 = .ok (.aload_n 2, 1) := by decide +kernel
theorem dL_law_1062 : decode cL_law 1062 = .ok (.invokevirtual 74, 3) := by decide +kernel
theorem dL_law_1065 : decode cL_law 1065 = .ok (.iload 5, 2) := by decide +kernel
theorem dL_law_1067 : decode cL_law 1067 = .ok (.if_icmp .eq 5, 3) := by decide +kernel
theorem dL_law_1070 : decode cL_law 1070 = .ok (.iconst 0, 1) := by decide +kernel
theorem dL_law_1071 : decode cL_law 1071 = .ok (.ireturn, 1) := by decide +kernel
theorem dL_law_1072 : decode cL_law 1072 = .ok (.iload 5, 2) := by decide +kernel
theorem dL_law_1074 : decode cL_law 1074 = .ok (.ifCond .ne 15, 3) := by decide +kernel
theorem dL_law_1077 : decode cL_law 1077 = .ok (.aload_n 3, 1) := by decide +kernel
theorem dL_law_1078 : decode cL_law 1078 = .ok (.iconst 0, 1) := by decide +kernel
theorem dL_law_1079 : decode cL_law 1079 = .ok (.laload, 1) := by decide +kernel
theorem dL_law_1080 : decode cL_law 1080 = .ok (.iload 6, 2) := by decide +kernel
theorem dL_law_1082 : decode cL_law 1082 = .ok (.i2l, 1) := by decide +kernel
theorem dL_law_1083 : decode cL_law 1083 = .ok (.lcmp, 1) := by decide +kernel
theorem dL_law_1084 : decode cL_law 1084 = .ok (.ifCond .eq 5, 3) := by decide +kernel
theorem dL_law_1087 : decode cL_law 1087 = .ok (.iconst 0, 1) := by decide +kernel
theorem dL_law_1088 : decode cL_law 1088 = .ok (.ireturn, 1) := by decide +kernel
theorem dL_law_1089 : decode cL_law 1089 = .ok (.goto 58, 3) := by decide +kernel
theorem dL_law_1092 : decode cL_law 1092 = .ok (.aload_n 1, 1) := by decide +kernel
theorem dL_law_1093 : decode cL_law 1093 = .ok (.invokevirtual 123, 3) := by decide +kernel
theorem dL_law_1096 : decode cL_law 1096 = .ok (.dstore 5, 2) := by decide +kernel
theorem dL_law_1098 : decode cL_law 1098 = .ok (.aload_n 2, 1) := by decide +kernel
theorem dL_law_1099 : decode cL_law 1099 = .ok (.invokevirtual 127, 3) := by decide +kernel
theorem dL_law_1102 : decode cL_law 1102 = .ok (.dstore 7, 2) := by decide +kernel
theorem dL_law_1104 : decode cL_law 1104 = .ok (.dload 5, 2) := by decide +kernel
theorem dL_law_1106 : decode cL_law 1106 = .ok (.dload 7, 2) := by decide +kernel
theorem dL_law_1108 : decode cL_law 1108 = .ok (.dcmp .l, 1) := by decide +kernel
theorem dL_law_1109 : decode cL_law 1109 = .ok (.ifCond .eq 21, 3) := by decide +kernel
theorem dL_law_1112 : decode cL_law 1112 = .ok (.dload 5, 2) := by decide +kernel
theorem dL_law_1114 : decode cL_law 1114 = .ok (.dload 5, 2) := by decide +kernel
theorem dL_law_1116 : decode cL_law 1116 = .ok (.dcmp .l, 1) := by decide +kernel
theorem dL_law_1117 : decode cL_law 1117 = .ok (.ifCond .eq 11, 3) := by decide +kernel
theorem dL_law_1120 : decode cL_law 1120 = .ok (.dload 7, 2) := by decide +kernel
theorem dL_law_1122 : decode cL_law 1122 = .ok (.dload 7, 2) := by decide +kernel
theorem dL_law_1124 : decode cL_law 1124 = .ok (.dcmp .l, 1) := by decide +kernel
theorem dL_law_1125 : decode cL_law 1125 = .ok (.ifCond .ne 5, 3) := by decide +kernel
theorem dL_law_1128 : decode cL_law 1128 = .ok (.iconst 0, 1) := by decide +kernel
theorem dL_law_1129 : decode cL_law 1129 = .ok (.ireturn, 1) := by decide +kernel
theorem dL_law_1130 : decode cL_law 1130 = .ok (.goto 17, 3) := by decide +kernel
theorem dL_law_1133 : decode cL_law 1133 = .ok (.aload_n 1, 1) := by decide +kernel
theorem dL_law_1134 : decode cL_law 1134 = .ok (.invokevirtual 128, 3) := by decide +kernel
theorem dL_law_1137 : decode cL_law 1137 = .ok (.aload_n 2, 1) := by decide +kernel
theorem dL_law_1138 : decode cL_law 1138 = .ok (.invokevirtual 132, 3) := by decide +kernel
theorem dL_law_1141 : decode cL_law 1141 = .ok (.lcmp, 1) := by decide +kernel
theorem dL_law_1142 : decode cL_law 1142 = .ok (.ifCond .eq 5, 3) := by decide +kernel
theorem dL_law_1145 : decode cL_law 1145 = .ok (.iconst 0, 1) := by decide +kernel
theorem dL_law_1146 : decode cL_law 1146 = .ok (.ireturn, 1) := by decide +kernel
theorem dL_law_1147 : decode cL_law 1147 = .ok (.iinc 4 5, 3) := by decide +kernel
theorem dL_law_1150 : decode cL_law 1150 = .ok (.goto (-1127), 3) := by decide +kernel
theorem dL_law_1153 : decode cL_law 1153 = .ok (.iconst 1, 1) := by decide +kernel
theorem dL_law_1154 : decode cL_law 1154 = .ok (.ireturn, 1) := by decide +kernel
abbrev vwCl : List vw_C := [(RX0, TX0, 5), (RX1, TX1, 13), (RX2, TX2, 1), (RX3, TX3, 3), (RX4, TX4, 13), (RX5, TX5, 8)]
/-- the objects of LanternWeirs$Bed, kind 0: what each holds, by its address -/
