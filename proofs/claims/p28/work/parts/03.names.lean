def RX0 : String := "RareFaults$Corrections"
def TX0 : u_T := fun k => match k with
  | _ => ("RareFaults$Corrections", "greatestBySum", "[D", true)
def tyX0 : Nat → FieldType := fun k => match k with
  | _ => .array .double
abbrev wsX00 : List Cond := u_ws RX0 TX0 1
theorem nmX0 : ∀ a, a < 1 → ∀ b, b < 1 → a ≠ b → (TX0 a).2.1 ≠ (TX0 b).2.1 := by decide +kernel
theorem tyX0_ok : ∀ k, k < 1 → parseFieldDescriptor (TX0 k).2.2.1 = some (tyX0 k) := by decide +kernel
abbrev cX0_init : ByteArray := prog_2_method_1_code
def yX0_init : MethodName := ⟨RX0, "<init>", "()V"⟩
def RX1 : String := "RareFaults$Counting"
def TX1 : u_T := fun k => match k with
  | _ => ("RareFaults$Counting", "ways", "[J", true)
def tyX1 : Nat → FieldType := fun k => match k with
  | _ => .array .long
abbrev wsX10 : List Cond := u_ws RX1 TX1 1
theorem nmX1 : ∀ a, a < 1 → ∀ b, b < 1 → a ≠ b → (TX1 a).2.1 ≠ (TX1 b).2.1 := by decide +kernel
theorem tyX1_ok : ∀ k, k < 1 → parseFieldDescriptor (TX1 k).2.2.1 = some (tyX1 k) := by decide +kernel
abbrev cX1_init : ByteArray := prog_3_method_1_code
def yX1_init : MethodName := ⟨RX1, "<init>", "()V"⟩
abbrev cX1_fill : ByteArray := prog_3_method_2_code
def yX1_fill : MethodName := ⟨RX1, "fill", "(LRareFaults$Plant;I)V"⟩
abbrev cX1_addPartOf : ByteArray := prog_3_method_3_code
def yX1_addPartOf : MethodName := ⟨RX1, "addPartOf", "(LRareFaults$Plant;I)V"⟩
abbrev cX1_waysOf : ByteArray := prog_3_method_4_code
def yX1_waysOf : MethodName := ⟨RX1, "waysOf", "(I)J"⟩
abbrev cX1_waysFrom : ByteArray := prog_3_method_5_code
def yX1_waysFrom : MethodName := ⟨RX1, "waysFrom", "(I)J"⟩
abbrev cX1_oddsFrom : ByteArray := prog_3_method_6_code
def yX1_oddsFrom : MethodName := ⟨RX1, "oddsFrom", "(I)D"⟩
def RX2 : String := "RareFaults$History"
def TX2 : u_T := fun k => match k with
  | 0 => ("RareFaults$History", "places", "[LRareFaults$Plant;", true)
  | 1 => ("RareFaults$History", "next", "I", false)
  | _ => ("RareFaults$History", "number", "I", false)
def tyX2 : Nat → FieldType := fun k => match k with
  | 0 => .array (.object "RareFaults$Plant")
  | 1 => .int
  | _ => .int
abbrev wsX20 : List Cond := u_ws RX2 TX2 3
theorem nmX2 : ∀ a, a < 3 → ∀ b, b < 3 → a ≠ b → (TX2 a).2.1 ≠ (TX2 b).2.1 := by decide +kernel
theorem tyX2_ok : ∀ k, k < 3 → parseFieldDescriptor (TX2 k).2.2.1 = some (tyX2 k) := by decide +kernel
abbrev cX2_init : ByteArray := prog_4_method_1_code
def yX2_init : MethodName := ⟨RX2, "<init>", "()V"⟩
abbrev cX2_save : ByteArray := prog_4_method_2_code
def yX2_save : MethodName := ⟨RX2, "save", "(LRareFaults$Plant;)V"⟩
def RX3 : String := "RareFaults$Likeliest"
def TX3 : u_T := fun k => match k with
  | _ => ("RareFaults$Likeliest", "most", "[I", true)
def tyX3 : Nat → FieldType := fun k => match k with
  | _ => .array .int
abbrev wsX30 : List Cond := u_ws RX3 TX3 1
theorem nmX3 : ∀ a, a < 1 → ∀ b, b < 1 → a ≠ b → (TX3 a).2.1 ≠ (TX3 b).2.1 := by decide +kernel
theorem tyX3_ok : ∀ k, k < 1 → parseFieldDescriptor (TX3 k).2.2.1 = some (tyX3 k) := by decide +kernel
abbrev cX3_init : ByteArray := prog_5_method_1_code
def yX3_init : MethodName := ⟨RX3, "<init>", "()V"⟩
abbrev cX3_fill : ByteArray := prog_5_method_2_code
def yX3_fill : MethodName := ⟨RX3, "fill", "(LRareFaults$Plant;)V"⟩
abbrev cX3_waysFor : ByteArray := prog_5_method_3_code
def yX3_waysFor : MethodName := ⟨RX3, "waysFor", "(I)I"⟩
abbrev cX3_loadOf : ByteArray := prog_5_method_4_code
def yX3_loadOf : MethodName := ⟨RX3, "loadOf", "(LRareFaults$Plant;I)I"⟩
abbrev cX3_firstLoad : ByteArray := prog_5_method_5_code
def yX3_firstLoad : MethodName := ⟨RX3, "firstLoad", "(LRareFaults$Plant;II)I"⟩
abbrev cX3_mostOfLoads : ByteArray := prog_5_method_6_code
def yX3_mostOfLoads : MethodName := ⟨RX3, "mostOfLoads", "(LRareFaults$Plant;II)I"⟩
abbrev cX3_waysWith : ByteArray := prog_5_method_7_code
def yX3_waysWith : MethodName := ⟨RX3, "waysWith", "(LRareFaults$Plant;III)I"⟩
abbrev cX3_getMost : ByteArray := prog_5_method_8_code
def yX3_getMost : MethodName := ⟨RX3, "getMost", "(II)I"⟩
abbrev cX3_setMost : ByteArray := prog_5_method_9_code
def yX3_setMost : MethodName := ⟨RX3, "setMost", "(III)V"⟩
def RX4 : String := "RareFaults$Plant"
def TX4 : u_T := fun k => match k with
  | 0 => ("RareFaults$Plant", "weights", "LRareFaults$Table;", true)
  | 1 => ("RareFaults$Plant", "tilted", "LRareFaults$Table;", true)
  | 2 => ("RareFaults$Plant", "samples", "LRareFaults$Samples;", true)
  | 3 => ("RareFaults$Plant", "parts", "I", false)
  | 4 => ("RareFaults$Plant", "limit", "I", false)
  | _ => ("RareFaults$Plant", "seed", "I", false)
def tyX4 : Nat → FieldType := fun k => match k with
  | 0 => .object "RareFaults$Table"
  | 1 => .object "RareFaults$Table"
  | 2 => .object "RareFaults$Samples"
  | 3 => .int
  | 4 => .int
  | _ => .int
abbrev wsX40 : List Cond := u_ws RX4 TX4 6
theorem nmX4 : ∀ a, a < 6 → ∀ b, b < 6 → a ≠ b → (TX4 a).2.1 ≠ (TX4 b).2.1 := by decide +kernel
theorem tyX4_ok : ∀ k, k < 6 → parseFieldDescriptor (TX4 k).2.2.1 = some (tyX4 k) := by decide +kernel
abbrev cX4_init : ByteArray := prog_6_method_1_code
def yX4_init : MethodName := ⟨RX4, "<init>", "()V"⟩
abbrev cX4_addEmptyPart : ByteArray := prog_6_method_2_code
def yX4_addEmptyPart : MethodName := ⟨RX4, "addEmptyPart", "()I"⟩
abbrev cX4_dropPart : ByteArray := prog_6_method_3_code
def yX4_dropPart : MethodName := ⟨RX4, "dropPart", "(I)V"⟩
abbrev cX4_setBothWeights : ByteArray := prog_6_method_4_code
def yX4_setBothWeights : MethodName := ⟨RX4, "setBothWeights", "(III)V"⟩
abbrev cX4_setWeight : ByteArray := prog_6_method_5_code
def yX4_setWeight : MethodName := ⟨RX4, "setWeight", "(III)V"⟩
abbrev cX4_setTilted : ByteArray := prog_6_method_6_code
def yX4_setTilted : MethodName := ⟨RX4, "setTilted", "(III)V"⟩
abbrev cX4_tiltBy : ByteArray := prog_6_method_7_code
def yX4_tiltBy : MethodName := ⟨RX4, "tiltBy", "(I)V"⟩
abbrev cX4_setLimit : ByteArray := prog_6_method_8_code
def yX4_setLimit : MethodName := ⟨RX4, "setLimit", "(I)V"⟩
abbrev cX4_sumOfTiltedTotals : ByteArray := prog_6_method_9_code
def yX4_sumOfTiltedTotals : MethodName := ⟨RX4, "sumOfTiltedTotals", "()I"⟩
abbrev cX4_leastSum : ByteArray := prog_6_method_10_code
def yX4_leastSum : MethodName := ⟨RX4, "leastSum", "()I"⟩
abbrev cX4_greatestSum : ByteArray := prog_6_method_11_code
def yX4_greatestSum : MethodName := ⟨RX4, "greatestSum", "()I"⟩
abbrev cX4_drawRow : ByteArray := prog_6_method_12_code
def yX4_drawRow : MethodName := ⟨RX4, "drawRow", "()V"⟩
abbrev cX4_drawLoad : ByteArray := prog_6_method_13_code
def yX4_drawLoad : MethodName := ⟨RX4, "drawLoad", "(I)I"⟩
abbrev cX4_corrected : ByteArray := prog_6_method_14_code
def yX4_corrected : MethodName := ⟨RX4, "corrected", "(DII)D"⟩
abbrev cX4_copyFrom : ByteArray := prog_6_method_15_code
def yX4_copyFrom : MethodName := ⟨RX4, "copyFrom", "(LRareFaults$Plant;)V"⟩
def RX5 : String := "RareFaults$Samples"
def TX5 : u_T := fun k => match k with
  | 0 => ("RareFaults$Samples", "latestLoads", "[I", true)
  | 1 => ("RareFaults$Samples", "number", "I", false)
  | 2 => ("RareFaults$Samples", "faults", "I", false)
  | 3 => ("RareFaults$Samples", "faultSum", "D", false)
  | 4 => ("RareFaults$Samples", "sum", "D", false)
  | 5 => ("RareFaults$Samples", "squareSum", "D", false)
  | _ => ("RareFaults$Samples", "latestCorrection", "D", false)
def tyX5 : Nat → FieldType := fun k => match k with
  | 0 => .array .int
  | 1 => .int
  | 2 => .int
  | 3 => .double
  | 4 => .double
  | 5 => .double
  | _ => .double
abbrev wsX50 : List Cond := u_ws RX5 TX5 7
theorem nmX5 : ∀ a, a < 7 → ∀ b, b < 7 → a ≠ b → (TX5 a).2.1 ≠ (TX5 b).2.1 := by decide +kernel
theorem tyX5_ok : ∀ k, k < 7 → parseFieldDescriptor (TX5 k).2.2.1 = some (tyX5 k) := by decide +kernel
abbrev cX5_init : ByteArray := prog_7_method_1_code
def yX5_init : MethodName := ⟨RX5, "<init>", "()V"⟩
abbrev cX5_clear : ByteArray := prog_7_method_2_code
def yX5_clear : MethodName := ⟨RX5, "clear", "()V"⟩
abbrev cX5_setLatestLoad : ByteArray := prog_7_method_3_code
def yX5_setLatestLoad : MethodName := ⟨RX5, "setLatestLoad", "(II)V"⟩
abbrev cX5_latestLoadOf : ByteArray := prog_7_method_4_code
def yX5_latestLoadOf : MethodName := ⟨RX5, "latestLoadOf", "(I)I"⟩
abbrev cX5_add : ByteArray := prog_7_method_5_code
def yX5_add : MethodName := ⟨RX5, "add", "(DZ)V"⟩
abbrev cX5_shareOf : ByteArray := prog_7_method_6_code
def yX5_shareOf : MethodName := ⟨RX5, "shareOf", "(D)D"⟩
abbrev cX5_effectiveNumber : ByteArray := prog_7_method_7_code
def yX5_effectiveNumber : MethodName := ⟨RX5, "effectiveNumber", "()D"⟩
abbrev cX5_copyFrom : ByteArray := prog_7_method_8_code
def yX5_copyFrom : MethodName := ⟨RX5, "copyFrom", "(LRareFaults$Samples;)V"⟩
def RX6 : String := "RareFaults$Syntax"
def TX6 : u_T := fun k => match k with
  | _ => ("", "", "", false)
def tyX6 : Nat → FieldType := fun k => match k with
  | _ => .int
abbrev wsX60 : List Cond := u_ws RX6 TX6 0
theorem nmX6 : ∀ a, a < 0 → ∀ b, b < 0 → a ≠ b → (TX6 a).2.1 ≠ (TX6 b).2.1 := by decide +kernel
theorem tyX6_ok : ∀ k, k < 0 → parseFieldDescriptor (TX6 k).2.2.1 = some (tyX6 k) := by decide +kernel
def RX7 : String := "RareFaults$Table"
def TX7 : u_T := fun k => match k with
  | _ => ("RareFaults$Table", "cells", "[I", true)
def tyX7 : Nat → FieldType := fun k => match k with
  | _ => .array .int
abbrev wsX70 : List Cond := u_ws RX7 TX7 1
theorem nmX7 : ∀ a, a < 1 → ∀ b, b < 1 → a ≠ b → (TX7 a).2.1 ≠ (TX7 b).2.1 := by decide +kernel
theorem tyX7_ok : ∀ k, k < 1 → parseFieldDescriptor (TX7 k).2.2.1 = some (tyX7 k) := by decide +kernel
abbrev cX7_init : ByteArray := prog_9_method_1_code
def yX7_init : MethodName := ⟨RX7, "<init>", "()V"⟩
abbrev cX7_get : ByteArray := prog_9_method_2_code
def yX7_get : MethodName := ⟨RX7, "get", "(II)I"⟩
abbrev cX7_set : ByteArray := prog_9_method_3_code
def yX7_set : MethodName := ⟨RX7, "set", "(III)V"⟩
abbrev cX7_totalOf : ByteArray := prog_9_method_4_code
def yX7_totalOf : MethodName := ⟨RX7, "totalOf", "(I)I"⟩
abbrev cX7_momentOf : ByteArray := prog_9_method_5_code
def yX7_momentOf : MethodName := ⟨RX7, "momentOf", "(I)I"⟩
abbrev cX7_leastLoadOf : ByteArray := prog_9_method_6_code
def yX7_leastLoadOf : MethodName := ⟨RX7, "leastLoadOf", "(I)I"⟩
abbrev cX7_greatestLoadOf : ByteArray := prog_9_method_7_code
def yX7_greatestLoadOf : MethodName := ⟨RX7, "greatestLoadOf", "(I)I"⟩
abbrev cX7_dropRow : ByteArray := prog_9_method_8_code
def yX7_dropRow : MethodName := ⟨RX7, "dropRow", "(I)V"⟩
abbrev cX7_copyFrom : ByteArray := prog_9_method_9_code
def yX7_copyFrom : MethodName := ⟨RX7, "copyFrom", "(LRareFaults$Table;)V"⟩
def RX8 : String := "RareFaults$Text"
def TX8 : u_T := fun k => match k with
  | 0 => ("RareFaults$Text", "codes", "[I", true)
  | _ => ("RareFaults$Text", "length", "I", false)
def tyX8 : Nat → FieldType := fun k => match k with
  | 0 => .array .int
  | _ => .int
abbrev wsX80 : List Cond := u_ws RX8 TX8 2
theorem nmX8 : ∀ a, a < 2 → ∀ b, b < 2 → a ≠ b → (TX8 a).2.1 ≠ (TX8 b).2.1 := by decide +kernel
theorem tyX8_ok : ∀ k, k < 2 → parseFieldDescriptor (TX8 k).2.2.1 = some (tyX8 k) := by decide +kernel
abbrev cX8_init : ByteArray := prog_10_method_1_code
def yX8_init : MethodName := ⟨RX8, "<init>", "()V"⟩
def RX9 : String := "RareFaults"
def TX9 : u_T := fun k => match k with
  | 0 => ("RareFaults", "plant", "LRareFaults$Plant;", true)
  | 1 => ("RareFaults", "history", "LRareFaults$History;", true)
  | 2 => ("RareFaults", "buffer", "LRareFaults$Text;", true)
  | 3 => ("RareFaults", "counting", "LRareFaults$Counting;", true)
  | 4 => ("RareFaults", "likeliestFault", "LRareFaults$Likeliest;", true)
  | _ => ("RareFaults", "corrections", "LRareFaults$Corrections;", true)
def tyX9 : Nat → FieldType := fun k => match k with
  | 0 => .object "RareFaults$Plant"
  | 1 => .object "RareFaults$History"
  | 2 => .object "RareFaults$Text"
  | 3 => .object "RareFaults$Counting"
  | 4 => .object "RareFaults$Likeliest"
  | _ => .object "RareFaults$Corrections"
abbrev wsX90 : List Cond := u_ws RX9 TX9 6
theorem nmX9 : ∀ a, a < 6 → ∀ b, b < 6 → a ≠ b → (TX9 a).2.1 ≠ (TX9 b).2.1 := by decide +kernel
theorem tyX9_ok : ∀ k, k < 6 → parseFieldDescriptor (TX9 k).2.2.1 = some (tyX9 k) := by decide +kernel
abbrev cX9_init : ByteArray := prog_1_method_1_code
def yX9_init : MethodName := ⟨RX9, "<init>", "()V"⟩
abbrev cX9_addPart : ByteArray := prog_1_method_2_code
def yX9_addPart : MethodName := ⟨RX9, "addPart", "(I)I"⟩
abbrev cX9_removePart : ByteArray := prog_1_method_3_code
def yX9_removePart : MethodName := ⟨RX9, "removePart", "(I)I"⟩
abbrev cX9_weigh : ByteArray := prog_1_method_4_code
def yX9_weigh : MethodName := ⟨RX9, "weigh", "(III)I"⟩
abbrev cX9_tilt : ByteArray := prog_1_method_5_code
def yX9_tilt : MethodName := ⟨RX9, "tilt", "(III)I"⟩
abbrev cX9_tiltAll : ByteArray := prog_1_method_6_code
def yX9_tiltAll : MethodName := ⟨RX9, "tiltAll", "(I)I"⟩
abbrev cX9_limit : ByteArray := prog_1_method_7_code
def yX9_limit : MethodName := ⟨RX9, "limit", "(I)I"⟩
abbrev cX9_seed : ByteArray := prog_1_method_8_code
def yX9_seed : MethodName := ⟨RX9, "seed", "(I)I"⟩
abbrev cX9_draw : ByteArray := prog_1_method_9_code
def yX9_draw : MethodName := ⟨RX9, "draw", "(I)I"⟩
abbrev cX9_part : ByteArray := prog_1_method_16_code
def yX9_part : MethodName := ⟨RX9, "part", "(II)I"⟩
abbrev cX9_weight : ByteArray := prog_1_method_17_code
def yX9_weight : MethodName := ⟨RX9, "weight", "(IIZ)I"⟩
abbrev cX9_ways : ByteArray := prog_1_method_18_code
def yX9_ways : MethodName := ⟨RX9, "ways", "(IZ)J"⟩
abbrev cX9_likeliest : ByteArray := prog_1_method_19_code
def yX9_likeliest : MethodName := ⟨RX9, "likeliest", "(I)I"⟩
abbrev cX9_count : ByteArray := prog_1_method_20_code
def yX9_count : MethodName := ⟨RX9, "count", "(I)I"⟩
abbrev cX9_measure : ByteArray := prog_1_method_21_code
def yX9_measure : MethodName := ⟨RX9, "measure", "(I)D"⟩
abbrev cX9_oddsFor : ByteArray := prog_1_method_30_code
def yX9_oddsFor : MethodName := ⟨RX9, "oddsFor", "(II)D"⟩
abbrev cX9_requirePart : ByteArray := prog_1_method_31_code
def yX9_requirePart : MethodName := ⟨RX9, "requirePart", "(I)V"⟩
abbrev cX9_requireLoad : ByteArray := prog_1_method_32_code
def yX9_requireLoad : MethodName := ⟨RX9, "requireLoad", "(I)V"⟩
abbrev cX9_requireRange : ByteArray := prog_1_method_33_code
def yX9_requireRange : MethodName := ⟨RX9, "requireRange", "(III)V"⟩
def RX10 : String := "RareFaultsModel"
def TX10 : u_T := fun k => match k with
  | _ => ("", "", "", false)
def tyX10 : Nat → FieldType := fun k => match k with
  | _ => .int
abbrev wsX100 : List Cond := u_ws RX10 TX10 0
theorem nmX10 : ∀ a, a < 0 → ∀ b, b < 0 → a ≠ b → (TX10 a).2.1 ≠ (TX10 b).2.1 := by decide +kernel
theorem tyX10_ok : ∀ k, k < 0 → parseFieldDescriptor (TX10 k).2.2.1 = some (tyX10 k) := by decide +kernel
def RJ9 : String := "java/lang/Math"
def TJ9 : u_T := fun k => match k with
  | _ => ("", "", "", false)
def tyJ9 : Nat → FieldType := fun k => match k with
  | _ => .int
abbrev wsJ90 : List Cond := u_ws RJ9 TJ9 0
theorem nmJ9 : ∀ a, a < 0 → ∀ b, b < 0 → a ≠ b → (TJ9 a).2.1 ≠ (TJ9 b).2.1 := by decide +kernel
theorem tyJ9_ok : ∀ k, k < 0 → parseFieldDescriptor (TJ9 k).2.2.1 = some (tyJ9 k) := by decide +kernel
abbrev cJ9_max_7cf53 : ByteArray := prog_17_method_65_code
def yJ9_max_7cf53 : MethodName := ⟨RJ9, "max", "(II)I"⟩
abbrev cJ9_min_7cf53 : ByteArray := prog_17_method_69_code
def yJ9_min_7cf53 : MethodName := ⟨RJ9, "min", "(II)I"⟩
def RJ0 : String := "java/lang/String"
def TJ0 : u_T := fun k => match k with
  | _ => ("", "", "", false)
def tyJ0 : Nat → FieldType := fun k => match k with
  | _ => .int
abbrev wsJ00 : List Cond := u_ws RJ0 TJ0 0
theorem nmJ0 : ∀ a, a < 0 → ∀ b, b < 0 → a ≠ b → (TJ0 a).2.1 ≠ (TJ0 b).2.1 := by decide +kernel
theorem tyJ0_ok : ∀ k, k < 0 → parseFieldDescriptor (TJ0 k).2.2.1 = some (tyJ0 k) := by decide +kernel
def RL : String := "RareFaultsLaw"
abbrev cL_cell : ByteArray := method_2_code
def yL_cell : MethodName := ⟨RL, "cell", "([II)I"⟩
abbrev cL_at : ByteArray := method_3_code
def yL_at : MethodName := ⟨RL, "at", "(II)I"⟩
abbrev cL_total : ByteArray := method_4_code
def yL_total : MethodName := ⟨RL, "total", "([II)I"⟩
abbrev cL_draw : ByteArray := method_5_code
def yL_draw : MethodName := ⟨RL, "draw", "([I[II)I"⟩
abbrev cL_parts : ByteArray := method_6_code
def yL_parts : MethodName := ⟨RL, "parts", "(LRareFaults;II[I[I[I)Z"⟩
abbrev cL_samples : ByteArray := method_7_code
def yL_samples : MethodName := ⟨RL, "samples", "(LRareFaults;II[I[I[I)Z"⟩
abbrev cL_rows : ByteArray := method_8_code
def yL_rows : MethodName := ⟨RL, "rows", "(LRareFaults;I[I[I)Z"⟩
abbrev cL_agree : ByteArray := method_9_code
def yL_agree : MethodName := ⟨RL, "agree", "(LRareFaults;I[I[I[I[I)Z"⟩
abbrev cL_law : ByteArray := code
def yL_law : MethodName := ⟨RL, "law", "([I)Z"⟩
def wsJ9_max_7cf53 : List Cond := .code yJ9_max_7cf53 cJ9_max_7cf53 2 (some .int) :: ([])
def wsJ9_min_7cf53 : List Cond := .code yJ9_min_7cf53 cJ9_min_7cf53 2 (some .int) :: ([])
def wsL_law0_r1 : List Cond := [Cond.classLink RL 25 RX9, Cond.instantiable RX9 6, Cond.initialized RX9, Cond.arrayClass .int, Cond.methodLink RL 81 yX9_init, Cond.instanceMethod yX9_init, Cond.code yX9_init cX9_init 1 none, Cond.methodLink RX9 3 objectInit, Cond.instanceMethod objectInit, Cond.code objectInit ⟨#[0xb1]⟩ 1 none, Cond.classLink RX9 9 RX4, Cond.instantiable RX4 6, Cond.initialized RX4, Cond.fieldLink RX9 12 "RareFaults" "plant" "LRareFaults$Plant;", Cond.classLink RX9 16 RX2, Cond.instantiable RX2 3, Cond.initialized RX2, Cond.fieldLink RX9 19 "RareFaults" "history" "LRareFaults$History;", Cond.classLink RX9 23 RX8, Cond.instantiable RX8 2, Cond.initialized RX8, Cond.fieldLink RX9 26 "RareFaults" "buffer" "LRareFaults$Text;", Cond.classLink RX9 30 RX1, Cond.instantiable RX1 1]
def wsL_law0_r2 : List Cond := [Cond.initialized RX1, Cond.fieldLink RX9 33 "RareFaults" "counting" "LRareFaults$Counting;", Cond.classLink RX9 37 RX3, Cond.instantiable RX3 1, Cond.initialized RX3, Cond.fieldLink RX9 40 "RareFaults" "likeliestFault" "LRareFaults$Likeliest;", Cond.classLink RX9 44 RX0, Cond.instantiable RX0 1, Cond.initialized RX0, Cond.fieldLink RX9 47 "RareFaults" "corrections" "LRareFaults$Corrections;", Cond.instanceMethod yX4_init, Cond.code yX4_init cX4_init 1 none, Cond.methodLink RX4 3 objectInit, Cond.classLink RX4 9 RX7, Cond.instantiable RX7 1, Cond.initialized RX7, Cond.fieldLink RX4 12 "RareFaults$Plant" "weights" "LRareFaults$Table;", Cond.fieldLink RX4 18 "RareFaults$Plant" "tilted" "LRareFaults$Table;", Cond.classLink RX4 21 RX5, Cond.instantiable RX5 7, Cond.initialized RX5, Cond.fieldLink RX4 24 "RareFaults$Plant" "samples" "LRareFaults$Samples;", Cond.fieldLink RX4 28 "RareFaults$Plant" "parts" "I", Cond.fieldLink RX4 32 "RareFaults$Plant" "limit" "I"]
def wsL_law0_r3 : List Cond := [Cond.fieldLink RX4 35 "RareFaults$Plant" "seed" "I", Cond.instanceMethod yX7_init, Cond.code yX7_init cX7_init 1 none, Cond.methodLink RX7 3 objectInit, Cond.fieldLink RX7 9 "RareFaults$Table" "cells" "[I", Cond.instanceMethod yX5_init, Cond.code yX5_init cX5_init 1 none, Cond.methodLink RX5 3 objectInit, Cond.fieldLink RX5 9 "RareFaults$Samples" "latestLoads" "[I", Cond.instanceMethod yX2_init, Cond.code yX2_init cX2_init 1 none, Cond.methodLink RX2 3 objectInit, Cond.classLink RX2 9 RX4, Cond.fieldLink RX2 11 "RareFaults$History" "places" "[LRareFaults$Plant;", Cond.fieldLink RX2 17 "RareFaults$History" "next" "I", Cond.fieldLink RX2 21 "RareFaults$History" "number" "I", Cond.instanceMethod yX8_init, Cond.code yX8_init cX8_init 1 none, Cond.methodLink RX8 3 objectInit, Cond.fieldLink RX8 9 "RareFaults$Text" "codes" "[I", Cond.fieldLink RX8 15 "RareFaults$Text" "length" "I", Cond.instanceMethod yX1_init, Cond.code yX1_init cX1_init 1 none, Cond.methodLink RX1 3 objectInit]
def wsL_law0_r4 : List Cond := [Cond.arrayClass .long, Cond.fieldLink RX1 9 "RareFaults$Counting" "ways" "[J", Cond.instanceMethod yX3_init, Cond.code yX3_init cX3_init 1 none, Cond.methodLink RX3 3 objectInit, Cond.fieldLink RX3 9 "RareFaults$Likeliest" "most" "[I", Cond.instanceMethod yX0_init, Cond.code yX0_init cX0_init 1 none, Cond.methodLink RX0 3 objectInit, Cond.arrayClass .double, Cond.fieldLink RX0 9 "RareFaults$Corrections" "greatestBySum" "[D", Cond.methodLink RL 82 yL_cell, Cond.static yL_cell, Cond.initialized RL, Cond.code yL_cell cL_cell 2 (some .int), Cond.constant RL 7 (1518025757), Cond.methodLink RL 20 yL_at, Cond.static yL_at, Cond.code yL_at cL_at 2 (some .int), Cond.methodLink RL 85 yL_parts, Cond.static yL_parts, Cond.code yL_parts cL_parts 12 (some .boolean), Cond.methodLink RL 24 yX9_addPart, Cond.instanceMethod yX9_addPart]
def wsL_law0_r5 : List Cond := [Cond.selects RX9 yX9_addPart yX9_addPart, Cond.code yX9_addPart cX9_addPart 4 (some .int), Cond.classLink RX9 51 "java/lang/IllegalArgumentException", Cond.initialized "java/lang/IllegalArgumentException", Cond.classLink RX9 62 "java/lang/IllegalStateException", Cond.initialized "java/lang/IllegalStateException", Cond.fieldLink RX9 58 "RareFaults$Plant" "parts" "I", Cond.methodLink RX9 67 yX2_save, Cond.instanceMethod yX2_save, Cond.selects RX2 yX2_save yX2_save, Cond.code yX2_save cX2_save 3 none, Cond.methodLink RX2 29 Lib.Math.min.name, Cond.static Lib.Math.min.name, Cond.initialized "java/lang/Math", Cond.code Lib.Math.min.name Lib.Math.min.code 2 (some .int), Cond.methodLink RX2 25 yX4_copyFrom, Cond.instanceMethod yX4_copyFrom, Cond.selects RX4 yX4_copyFrom yX4_copyFrom, Cond.code yX4_copyFrom cX4_copyFrom 2 none, Cond.methodLink RX4 90 yX7_copyFrom, Cond.instanceMethod yX7_copyFrom, Cond.selects RX7 yX7_copyFrom yX7_copyFrom, Cond.code yX7_copyFrom cX7_copyFrom 3 none, Cond.methodLink RX4 94 yX5_copyFrom]
def wsL_law0_r6 : List Cond := [Cond.instanceMethod yX5_copyFrom, Cond.selects RX5 yX5_copyFrom yX5_copyFrom, Cond.code yX5_copyFrom cX5_copyFrom 3 none, Cond.fieldLink RX5 15 "RareFaults$Samples" "number" "I", Cond.fieldLink RX5 19 "RareFaults$Samples" "faults" "I", Cond.fieldLink RX5 22 "RareFaults$Samples" "faultSum" "D", Cond.fieldLink RX5 26 "RareFaults$Samples" "sum" "D", Cond.fieldLink RX5 29 "RareFaults$Samples" "squareSum" "D", Cond.fieldLink RX5 32 "RareFaults$Samples" "latestCorrection" "D", Cond.methodLink RX9 71 yX4_addEmptyPart, Cond.instanceMethod yX4_addEmptyPart, Cond.selects RX4 yX4_addEmptyPart yX4_addEmptyPart, Cond.code yX4_addEmptyPart cX4_addEmptyPart 1 (some .int), Cond.methodLink RX4 38 yX5_clear, Cond.instanceMethod yX5_clear, Cond.selects RX5 yX5_clear yX5_clear, Cond.code yX5_clear cX5_clear 1 none, Cond.methodLink RX9 75 yX4_setBothWeights, Cond.instanceMethod yX4_setBothWeights, Cond.selects RX4 yX4_setBothWeights yX4_setBothWeights, Cond.code yX4_setBothWeights cX4_setBothWeights 4 none, Cond.methodLink RX4 45 yX7_set, Cond.instanceMethod yX7_set, Cond.selects RX7 yX7_set yX7_set]
def wsL_law0_r7 : List Cond := [Cond.code yX7_set cX7_set 4 none, Cond.methodLink RL 14 yL_total, Cond.static yL_total, Cond.code yL_total cL_total 4 (some .int), Cond.methodLink RL 30 yX9_weigh, Cond.instanceMethod yX9_weigh, Cond.selects RX9 yX9_weigh yX9_weigh, Cond.code yX9_weigh cX9_weigh 5 (some .int), Cond.fieldLink RX9 92 "RareFaults$Plant" "weights" "LRareFaults$Table;", Cond.methodLink RX9 79 yX9_requirePart, Cond.instanceMethod yX9_requirePart, Cond.selects RX9 yX9_requirePart yX9_requirePart, Cond.code yX9_requirePart cX9_requirePart 2 none, Cond.classLink RX9 318 "java/lang/IndexOutOfBoundsException", Cond.initialized "java/lang/IndexOutOfBoundsException", Cond.methodLink RX9 86 yX9_requireLoad, Cond.static yX9_requireLoad, Cond.code yX9_requireLoad cX9_requireLoad 1 none, Cond.methodLink RX9 89 yX9_requireRange, Cond.static yX9_requireRange, Cond.code yX9_requireRange cX9_requireRange 3 none, Cond.methodLink RX9 96 yX7_get, Cond.instanceMethod yX7_get, Cond.selects RX7 yX7_get yX7_get]
def wsL_law0_r8 : List Cond := [Cond.code yX7_get cX7_get 4 (some .int), Cond.methodLink RX9 102 yX7_totalOf, Cond.instanceMethod yX7_totalOf, Cond.selects RX7 yX7_totalOf yX7_totalOf, Cond.code yX7_totalOf cX7_totalOf 4 (some .int), Cond.methodLink RX7 15 yX7_get, Cond.methodLink RX9 108 yX4_setWeight, Cond.instanceMethod yX4_setWeight, Cond.selects RX4 yX4_setWeight yX4_setWeight, Cond.code yX4_setWeight cX4_setWeight 4 none, Cond.methodLink RX4 49 yX7_get, Cond.methodLink RL 34 yX9_tiltAll, Cond.instanceMethod yX9_tiltAll, Cond.selects RX9 yX9_tiltAll yX9_tiltAll, Cond.code yX9_tiltAll cX9_tiltAll 2 (some .int), Cond.methodLink RX9 119 yX4_tiltBy, Cond.instanceMethod yX4_tiltBy, Cond.selects RX4 yX4_tiltBy yX4_tiltBy, Cond.code yX4_tiltBy cX4_tiltBy 5 none, Cond.methodLink RX4 53 Lib.Math.min.name, Cond.methodLink RX9 122 yX4_sumOfTiltedTotals, Cond.instanceMethod yX4_sumOfTiltedTotals, Cond.selects RX4 yX4_sumOfTiltedTotals yX4_sumOfTiltedTotals, Cond.code yX4_sumOfTiltedTotals cX4_sumOfTiltedTotals 3 (some .int)]
def wsL_law0_r9 : List Cond := [Cond.methodLink RX4 58 yX7_totalOf, Cond.methodLink RL 37 yX9_tilt, Cond.instanceMethod yX9_tilt, Cond.selects RX9 yX9_tilt yX9_tilt, Cond.code yX9_tilt cX9_tilt 5 (some .int), Cond.fieldLink RX9 113 "RareFaults$Plant" "tilted" "LRareFaults$Table;", Cond.methodLink RX9 116 yX4_setTilted, Cond.instanceMethod yX4_setTilted, Cond.selects RX4 yX4_setTilted yX4_setTilted, Cond.code yX4_setTilted cX4_setTilted 4 none, Cond.methodLink RL 40 yX9_removePart, Cond.instanceMethod yX9_removePart, Cond.selects RX9 yX9_removePart yX9_removePart, Cond.code yX9_removePart cX9_removePart 2 (some .int), Cond.methodLink RX9 83 yX4_dropPart, Cond.instanceMethod yX4_dropPart, Cond.selects RX4 yX4_dropPart yX4_dropPart, Cond.code yX4_dropPart cX4_dropPart 2 none, Cond.methodLink RX4 41 yX7_dropRow, Cond.instanceMethod yX7_dropRow, Cond.selects RX7 yX7_dropRow yX7_dropRow, Cond.code yX7_dropRow cX7_dropRow 4 none, Cond.methodLink RX7 19 yX7_set, Cond.methodLink RL 43 yX9_limit]
def wsL_law0_r10 : List Cond := [Cond.instanceMethod yX9_limit, Cond.selects RX9 yX9_limit yX9_limit, Cond.code yX9_limit cX9_limit 3 (some .int), Cond.fieldLink RX9 125 "RareFaults$Plant" "limit" "I", Cond.methodLink RX9 128 yX4_setLimit, Cond.instanceMethod yX4_setLimit, Cond.selects RX4 yX4_setLimit yX4_setLimit, Cond.code yX4_setLimit cX4_setLimit 2 none, Cond.methodLink RL 89 yL_samples, Cond.static yL_samples, Cond.code yL_samples cL_samples 11 (some .boolean), Cond.constant RL 46 (2147483647), Cond.methodLink RL 47 yX9_seed, Cond.instanceMethod yX9_seed, Cond.selects RX9 yX9_seed yX9_seed, Cond.code yX9_seed cX9_seed 3 (some .int), Cond.fieldLink RX9 133 "RareFaults$Plant" "seed" "I", Cond.methodLink RL 50 yL_draw, Cond.static yL_draw, Cond.code yL_draw cL_draw 7 (some .int), Cond.constantLong RL 8 (1103515245), Cond.constantLong RL 10 (12345), Cond.constantLong RL 12 (2147483647), Cond.methodLink RL 54 yX9_draw]
def wsL_law0_r11 : List Cond := [Cond.instanceMethod yX9_draw, Cond.selects RX9 yX9_draw yX9_draw, Cond.code yX9_draw cX9_draw 4 (some .int), Cond.fieldLink RX9 136 "RareFaults$Plant" "samples" "LRareFaults$Samples;", Cond.fieldLink RX9 140 "RareFaults$Samples" "number" "I", Cond.fieldLink RX9 147 "RareFaults$Samples" "faults" "I", Cond.methodLink RX9 150 yX4_drawRow, Cond.instanceMethod yX4_drawRow, Cond.selects RX4 yX4_drawRow yX4_drawRow, Cond.code yX4_drawRow cX4_drawRow 6 none, Cond.methodLink RX4 68 yX4_drawLoad, Cond.instanceMethod yX4_drawLoad, Cond.selects RX4 yX4_drawLoad yX4_drawLoad, Cond.code yX4_drawLoad cX4_drawLoad 6 (some .int), Cond.constantLong RX4 83 (1103515245), Cond.constantLong RX4 85 (12345), Cond.constantLong RX4 87 (2147483648), Cond.constant RX4 89 (65536), Cond.methodLink RX4 71 yX5_setLatestLoad, Cond.instanceMethod yX5_setLatestLoad, Cond.selects RX5 yX5_setLatestLoad yX5_setLatestLoad, Cond.code yX5_setLatestLoad cX5_setLatestLoad 3 none, Cond.methodLink RX4 75 yX4_corrected, Cond.instanceMethod yX4_corrected]
def wsL_law0_r12 : List Cond := [Cond.selects RX4 yX4_corrected yX4_corrected, Cond.code yX4_corrected cX4_corrected 7 (some .double), Cond.methodLink RX4 79 yX5_add, Cond.instanceMethod yX5_add, Cond.selects RX5 yX5_add yX5_add, Cond.code yX5_add cX5_add 4 none, Cond.methodLink RL 92 yL_agree, Cond.static yL_agree, Cond.code yL_agree cL_agree 8 (some .boolean), Cond.methodLink RL 70 yX9_part, Cond.instanceMethod yX9_part, Cond.selects RX9 yX9_part yX9_part, Cond.code yX9_part cX9_part 3 (some .int), Cond.methodLink RX9 190 yX7_leastLoadOf, Cond.instanceMethod yX7_leastLoadOf, Cond.selects RX7 yX7_leastLoadOf yX7_leastLoadOf, Cond.code yX7_leastLoadOf cX7_leastLoadOf 3 (some .int), Cond.methodLink RX9 193 yX7_greatestLoadOf, Cond.instanceMethod yX7_greatestLoadOf, Cond.selects RX7 yX7_greatestLoadOf yX7_greatestLoadOf, Cond.code yX7_greatestLoadOf cX7_greatestLoadOf 3 (some .int), Cond.methodLink RX9 196 yX7_momentOf, Cond.instanceMethod yX7_momentOf, Cond.selects RX7 yX7_momentOf yX7_momentOf]
def wsL_law0_r13 : List Cond := [Cond.code yX7_momentOf cX7_momentOf 4 (some .int), Cond.methodLink RX9 199 yX5_latestLoadOf, Cond.instanceMethod yX5_latestLoadOf, Cond.selects RX5 yX5_latestLoadOf yX5_latestLoadOf, Cond.code yX5_latestLoadOf cX5_latestLoadOf 3 (some .int), Cond.methodLink RL 73 yX9_weight, Cond.instanceMethod yX9_weight, Cond.selects RX9 yX9_weight yX9_weight, Cond.code yX9_weight cX9_weight 4 (some .int), Cond.methodLink RL 59 yX9_count, Cond.instanceMethod yX9_count, Cond.selects RX9 yX9_count yX9_count, Cond.code yX9_count cX9_count 2 (some .int), Cond.fieldLink RX9 184 "RareFaults$History" "number" "I", Cond.methodLink RX9 219 yX4_leastSum, Cond.instanceMethod yX4_leastSum, Cond.selects RX4 yX4_leastSum yX4_leastSum, Cond.code yX4_leastSum cX4_leastSum 3 (some .int), Cond.methodLink RX4 62 yX7_leastLoadOf, Cond.methodLink RX9 222 yX4_greatestSum, Cond.instanceMethod yX4_greatestSum, Cond.selects RX4 yX4_greatestSum yX4_greatestSum, Cond.code yX4_greatestSum cX4_greatestSum 3 (some .int), Cond.methodLink RX4 65 yX7_greatestLoadOf]
def wsL_law0_r14 : List Cond := [Cond.methodLink RX9 213 yX3_fill, Cond.instanceMethod yX3_fill, Cond.selects RX3 yX3_fill yX3_fill, Cond.code yX3_fill cX3_fill 4 none, Cond.fieldLink RX3 15 "RareFaults$Plant" "parts" "I", Cond.methodLink RX3 21 yX3_setMost, Cond.instanceMethod yX3_setMost, Cond.selects RX3 yX3_setMost yX3_setMost, Cond.code yX3_setMost cX3_setMost 4 none, Cond.methodLink RX3 25 yX3_mostOfLoads, Cond.instanceMethod yX3_mostOfLoads, Cond.selects RX3 yX3_mostOfLoads yX3_mostOfLoads, Cond.code yX3_mostOfLoads cX3_mostOfLoads 6 (some .int), Cond.methodLink RX3 43 Lib.Math.max.name, Cond.static Lib.Math.max.name, Cond.code Lib.Math.max.name Lib.Math.max.code 2 (some .int), Cond.methodLink RX3 48 yX3_waysWith, Cond.instanceMethod yX3_waysWith, Cond.selects RX3 yX3_waysWith yX3_waysWith, Cond.code yX3_waysWith cX3_waysWith 5 (some .int), Cond.fieldLink RX3 52 "RareFaults$Plant" "weights" "LRareFaults$Table;", Cond.methodLink RX3 56 yX7_get, Cond.methodLink RX3 29 yX3_getMost, Cond.instanceMethod yX3_getMost]
def wsL_law0_r15 : List Cond := [Cond.selects RX3 yX3_getMost yX3_getMost, Cond.code yX3_getMost cX3_getMost 4 (some .int), Cond.methodLink RX9 225 yX3_waysFor, Cond.instanceMethod yX3_waysFor, Cond.selects RX3 yX3_waysFor yX3_waysFor, Cond.code yX3_waysFor cX3_waysFor 2 (some .int), Cond.methodLink RL 77 yL_rows, Cond.static yL_rows, Cond.code yL_rows cL_rows 17 (some .boolean), Cond.methodLink RL 56 yX9_likeliest, Cond.instanceMethod yX9_likeliest, Cond.selects RX9 yX9_likeliest yX9_likeliest, Cond.code yX9_likeliest cX9_likeliest 2 (some .int), Cond.methodLink RX9 215 yX3_loadOf, Cond.instanceMethod yX3_loadOf, Cond.selects RX3 yX3_loadOf yX3_loadOf, Cond.code yX3_loadOf cX3_loadOf 5 (some .int), Cond.fieldLink RX3 33 "RareFaults$Plant" "limit" "I", Cond.methodLink RX3 36 yX3_waysFor, Cond.methodLink RX3 40 yX3_firstLoad, Cond.instanceMethod yX3_firstLoad, Cond.selects RX3 yX3_firstLoad yX3_firstLoad, Cond.code yX3_firstLoad cX3_firstLoad 5 (some .int), Cond.methodLink RL 62 yX9_ways]
def wsL_law0_r16 : List Cond := [Cond.instanceMethod yX9_ways, Cond.selects RX9 yX9_ways yX9_ways, Cond.code yX9_ways cX9_ways 3 (some .long), Cond.methodLink RX9 202 yX1_fill, Cond.instanceMethod yX1_fill, Cond.selects RX1 yX1_fill yX1_fill, Cond.code yX1_fill cX1_fill 4 none, Cond.fieldLink RX1 15 "RareFaults$Plant" "parts" "I", Cond.methodLink RX1 21 yX1_addPartOf, Cond.instanceMethod yX1_addPartOf, Cond.selects RX1 yX1_addPartOf yX1_addPartOf, Cond.code yX1_addPartOf cX1_addPartOf 7 none, Cond.fieldLink RX1 25 "RareFaults$Plant" "weights" "LRareFaults$Table;", Cond.methodLink RX1 29 yX7_get, Cond.methodLink RX1 35 yX1_waysOf, Cond.instanceMethod yX1_waysOf, Cond.selects RX1 yX1_waysOf yX1_waysOf, Cond.code yX1_waysOf cX1_waysOf 2 (some .long), Cond.methodLink RX9 206 yX1_waysFrom, Cond.instanceMethod yX1_waysFrom, Cond.selects RX1 yX1_waysFrom yX1_waysFrom, Cond.code yX1_waysFrom cX1_waysFrom 5 (some .long), Cond.methodLink RX1 39 Lib.Math.max.name, Cond.methodLink RX9 210 yX1_waysOf]
def wsL_law0_r17 : List Cond := [Cond.methodLink RL 66 yX9_measure, Cond.instanceMethod yX9_measure, Cond.selects RX9 yX9_measure yX9_measure, Cond.code yX9_measure cX9_measure 3 (some .double), Cond.fieldLink RX9 232 "RareFaults$Samples" "faultSum" "D", Cond.fieldLink RX9 240 "RareFaults$Samples" "sum" "D", Cond.fieldLink RX9 247 "RareFaults$Samples" "latestCorrection" "D", Cond.methodLink RX9 228 yX9_oddsFor, Cond.instanceMethod yX9_oddsFor, Cond.selects RX9 yX9_oddsFor yX9_oddsFor, Cond.code yX9_oddsFor cX9_oddsFor 3 (some .double), Cond.methodLink RX9 315 yX1_oddsFrom, Cond.instanceMethod yX1_oddsFrom, Cond.selects RX1 yX1_oddsFrom yX1_oddsFrom, Cond.code yX1_oddsFrom cX1_oddsFrom 4 (some .double), Cond.methodLink RX1 44 yX1_waysFrom, Cond.methodLink RX9 236 yX5_shareOf, Cond.instanceMethod yX5_shareOf, Cond.selects RX5 yX5_shareOf yX5_shareOf, Cond.code yX5_shareOf cX5_shareOf 3 (some .double), Cond.methodLink RX9 243 yX5_effectiveNumber, Cond.instanceMethod yX5_effectiveNumber, Cond.selects RX5 yX5_effectiveNumber yX5_effectiveNumber, Cond.code yX5_effectiveNumber cX5_effectiveNumber 1 (some .double)]
def wsL_law0 : List Cond := (wsL_law0_r1 ++ (wsL_law0_r2 ++ (wsL_law0_r3 ++ (wsL_law0_r4 ++ (wsL_law0_r5 ++ (wsL_law0_r6 ++ (wsL_law0_r7 ++ (wsL_law0_r8 ++ (wsL_law0_r9 ++ (wsL_law0_r10 ++ (wsL_law0_r11 ++ (wsL_law0_r12 ++ (wsL_law0_r13 ++ (wsL_law0_r14 ++ (wsL_law0_r15 ++ (wsL_law0_r16 ++ wsL_law0_r17)))))))))))))))) ++ wsX90 ++ wsX40 ++ wsX20 ++ wsX80 ++ wsX10 ++ wsX30 ++ wsX00 ++ wsX70 ++ wsX50 ++ ([] : List Cond)
def wsL_law : List Cond := wsL_law0 ++ (vx_atS RX9 55 "java/lang/IllegalArgumentException" ["java/lang/RuntimeException", "java/lang/Exception"]).filter goodWord ++ (vx_atS RX9 66 "java/lang/IllegalStateException" ["java/lang/RuntimeException", "java/lang/Exception"]).filter goodWord ++ (vx_atS RX9 322 "java/lang/IndexOutOfBoundsException" ["java/lang/RuntimeException", "java/lang/Exception"]).filter goodWord
theorem inlX0 : ∀ w ∈ wsX00, w ∈ wsL_law := fun _ h => List.mem_append_left _ (List.mem_append_left _ (List.mem_append_left _ (List.mem_append_left _ (List.mem_append_left _ (List.mem_append_left _ (List.mem_append_right _ h))))))
theorem inlX1 : ∀ w ∈ wsX10, w ∈ wsL_law := fun _ h => List.mem_append_left _ (List.mem_append_left _ (List.mem_append_left _ (List.mem_append_left _ (List.mem_append_left _ (List.mem_append_left _ (List.mem_append_left _ (List.mem_append_left _ (List.mem_append_right _ h))))))))
theorem inlX2 : ∀ w ∈ wsX20, w ∈ wsL_law := fun _ h => List.mem_append_left _ (List.mem_append_left _ (List.mem_append_left _ (List.mem_append_left _ (List.mem_append_left _ (List.mem_append_left _ (List.mem_append_left _ (List.mem_append_left _ (List.mem_append_left _ (List.mem_append_left _ (List.mem_append_right _ h))))))))))
theorem inlX3 : ∀ w ∈ wsX30, w ∈ wsL_law := fun _ h => List.mem_append_left _ (List.mem_append_left _ (List.mem_append_left _ (List.mem_append_left _ (List.mem_append_left _ (List.mem_append_left _ (List.mem_append_left _ (List.mem_append_right _ h)))))))
theorem inlX4 : ∀ w ∈ wsX40, w ∈ wsL_law := fun _ h => List.mem_append_left _ (List.mem_append_left _ (List.mem_append_left _ (List.mem_append_left _ (List.mem_append_left _ (List.mem_append_left _ (List.mem_append_left _ (List.mem_append_left _ (List.mem_append_left _ (List.mem_append_left _ (List.mem_append_left _ (List.mem_append_right _ h)))))))))))
theorem inlX5 : ∀ w ∈ wsX50, w ∈ wsL_law := fun _ h => List.mem_append_left _ (List.mem_append_left _ (List.mem_append_left _ (List.mem_append_left _ (List.mem_append_right _ h))))
theorem inlX7 : ∀ w ∈ wsX70, w ∈ wsL_law := fun _ h => List.mem_append_left _ (List.mem_append_left _ (List.mem_append_left _ (List.mem_append_left _ (List.mem_append_left _ (List.mem_append_right _ h)))))
theorem inlX8 : ∀ w ∈ wsX80, w ∈ wsL_law := fun _ h => List.mem_append_left _ (List.mem_append_left _ (List.mem_append_left _ (List.mem_append_left _ (List.mem_append_left _ (List.mem_append_left _ (List.mem_append_left _ (List.mem_append_left _ (List.mem_append_left _ (List.mem_append_right _ h)))))))))
theorem inlX9 : ∀ w ∈ wsX90, w ∈ wsL_law := fun _ h => List.mem_append_left _ (List.mem_append_left _ (List.mem_append_left _ (List.mem_append_left _ (List.mem_append_left _ (List.mem_append_left _ (List.mem_append_left _ (List.mem_append_left _ (List.mem_append_left _ (List.mem_append_left _ (List.mem_append_left _ (List.mem_append_left _ (List.mem_append_right _ h))))))))))))
abbrev vwCl : List vw_C := [(RX0, TX0, 1), (RX1, TX1, 1), (RX2, TX2, 3), (RX3, TX3, 1), (RX4, TX4, 6), (RX5, TX5, 7), (RX7, TX7, 1), (RX7, TX7, 1), (RX8, TX8, 2), (RX9, TX9, 6)]
