/-! ===== BEGIN printed: names, fields, word lists, decode rows ===== -/
def RX0 : String := "PointTrees$Boxes"
def TX0 : u_T := fun k => match k with
  | _ => ("PointTrees$Boxes", "ends", "[I", true)
def tyX0 : Nat → FieldType := fun k => match k with
  | _ => .array .int
abbrev wsX00 : List Cond := u_ws RX0 TX0 1
theorem nmX0 : ∀ a, a < 1 → ∀ b, b < 1 → a ≠ b → (TX0 a).2.1 ≠ (TX0 b).2.1 := by decide +kernel
theorem tyX0_ok : ∀ k, k < 1 → parseFieldDescriptor (TX0 k).2.2.1 = some (tyX0 k) := by decide +kernel
abbrev cX0_init : ByteArray := prog_2_method_1_code
def yX0_init : MethodName := ⟨RX0, "<init>", "(I)V"⟩
abbrev cX0_at : ByteArray := prog_2_method_2_code
def yX0_at : MethodName := ⟨RX0, "at", "(III)I"⟩
abbrev cX0_put : ByteArray := prog_2_method_3_code
def yX0_put : MethodName := ⟨RX0, "put", "(IIIIIII)V"⟩
abbrev cX0_putSpan : ByteArray := prog_2_method_4_code
def yX0_putSpan : MethodName := ⟨RX0, "putSpan", "(IIII)V"⟩
abbrev cX0_copyFrom : ByteArray := prog_2_method_5_code
def yX0_copyFrom : MethodName := ⟨RX0, "copyFrom", "(ILPointTrees$Boxes;I)V"⟩
abbrev cX0_widen : ByteArray := prog_2_method_6_code
def yX0_widen : MethodName := ⟨RX0, "widen", "(ILPointTrees$Boxes;I)V"⟩
abbrev cX0_sum : ByteArray := prog_2_method_7_code
def yX0_sum : MethodName := ⟨RX0, "sum", "(II)I"⟩
abbrev cX0_squareTo : ByteArray := prog_2_method_8_code
def yX0_squareTo : MethodName := ⟨RX0, "squareTo", "(IIIII)J"⟩
abbrev cX0_squareOnAxis : ByteArray := prog_2_method_9_code
def yX0_squareOnAxis : MethodName := ⟨RX0, "squareOnAxis", "(III)J"⟩
abbrev cX0_meet : ByteArray := prog_2_method_10_code
def yX0_meet : MethodName := ⟨RX0, "meet", "(LPointTrees$Boxes;ILPointTrees$Boxes;II)Z"⟩
abbrev cX0_within : ByteArray := prog_2_method_11_code
def yX0_within : MethodName := ⟨RX0, "within", "(LPointTrees$Boxes;ILPointTrees$Boxes;II)Z"⟩
def RX1 : String := "PointTrees"
def TX1 : u_T := fun k => match k with
  | 0 => ("PointTrees", "axes", "I", false)
  | 1 => ("PointTrees", "made", "I", false)
  | 2 => ("PointTrees", "present", "I", false)
  | 3 => ("PointTrees", "isThere", "[Z", true)
  | 4 => ("PointTrees", "things", "LPointTrees$Boxes;", true)
  | 5 => ("PointTrees", "blocks", "I", false)
  | 6 => ("PointTrees", "firstLoose", "I", false)
  | 7 => ("PointTrees", "order", "[I", true)
  | 8 => ("PointTrees", "blockFrom", "[I", true)
  | 9 => ("PointTrees", "blockTo", "[I", true)
  | 10 => ("PointTrees", "otherHalf", "[I", true)
  | 11 => ("PointTrees", "blockDepth", "[I", true)
  | 12 => ("PointTrees", "bounds", "LPointTrees$Boxes;", true)
  | 13 => ("PointTrees", "asked", "LPointTrees$Boxes;", true)
  | 14 => ("PointTrees", "isFound", "[Z", true)
  | 15 => ("PointTrees", "foundCount", "I", false)
  | 16 => ("PointTrees", "toldCounts", "[I", true)
  | _ => ("PointTrees", "squares", "[J", true)
def tyX1 : Nat → FieldType := fun k => match k with
  | 0 => .int
  | 1 => .int
  | 2 => .int
  | 3 => .array .boolean
  | 4 => .object "PointTrees$Boxes"
  | 5 => .int
  | 6 => .int
  | 7 => .array .int
  | 8 => .array .int
  | 9 => .array .int
  | 10 => .array .int
  | 11 => .array .int
  | 12 => .object "PointTrees$Boxes"
  | 13 => .object "PointTrees$Boxes"
  | 14 => .array .boolean
  | 15 => .int
  | 16 => .array .int
  | _ => .array .long
abbrev wsX10 : List Cond := u_ws RX1 TX1 18
theorem nmX1 : ∀ a, a < 18 → ∀ b, b < 18 → a ≠ b → (TX1 a).2.1 ≠ (TX1 b).2.1 := by decide +kernel
theorem tyX1_ok : ∀ k, k < 18 → parseFieldDescriptor (TX1 k).2.2.1 = some (tyX1 k) := by decide +kernel
abbrev cX1_init : ByteArray := prog_1_method_1_code
def yX1_init : MethodName := ⟨RX1, "<init>", "()V"⟩
abbrev cX1_dimensions : ByteArray := prog_1_method_2_code
def yX1_dimensions : MethodName := ⟨RX1, "dimensions", "(I)I"⟩
abbrev cX1_thing : ByteArray := prog_1_method_3_code
def yX1_thing : MethodName := ⟨RX1, "thing", "(IIIIII)I"⟩
abbrev cX1_drop : ByteArray := prog_1_method_4_code
def yX1_drop : MethodName := ⟨RX1, "drop", "(I)I"⟩
abbrev cX1_count : ByteArray := prog_1_method_5_code
def yX1_count : MethodName := ⟨RX1, "count", "()I"⟩
abbrev cX1_end : ByteArray := prog_1_method_6_code
def yX1_end : MethodName := ⟨RX1, "end", "(III)J"⟩
abbrev cX1_build : ByteArray := prog_1_method_7_code
def yX1_build : MethodName := ⟨RX1, "build", "()I"⟩
abbrev cX1_block : ByteArray := prog_1_method_8_code
def yX1_block : MethodName := ⟨RX1, "block", "(II)I"⟩
abbrev cX1_bound : ByteArray := prog_1_method_9_code
def yX1_bound : MethodName := ⟨RX1, "bound", "(III)J"⟩
abbrev cX1_range : ByteArray := prog_1_method_10_code
def yX1_range : MethodName := ⟨RX1, "range", "(IIIIIII)I"⟩
abbrev cX1_found : ByteArray := prog_1_method_11_code
def yX1_found : MethodName := ⟨RX1, "found", "(I)I"⟩
abbrev cX1_told : ByteArray := prog_1_method_12_code
def yX1_told : MethodName := ⟨RX1, "told", "(I)I"⟩
abbrev cX1_nearest : ByteArray := prog_1_method_13_code
def yX1_nearest : MethodName := ⟨RX1, "nearest", "(IIII)I"⟩
abbrev cX1_distance : ByteArray := prog_1_method_14_code
def yX1_distance : MethodName := ⟨RX1, "distance", "(IIII)J"⟩
abbrev cX1_pairs : ByteArray := prog_1_method_15_code
def yX1_pairs : MethodName := ⟨RX1, "pairs", "()I"⟩
abbrev cX1_day : ByteArray := prog_1_method_16_code
def yX1_day : MethodName := ⟨RX1, "day", "(JJ)J"⟩
abbrev cX1_hasThing : ByteArray := prog_1_method_17_code
def yX1_hasThing : MethodName := ⟨RX1, "hasThing", "(I)Z"⟩
abbrev cX1_hasBlock : ByteArray := prog_1_method_18_code
def yX1_hasBlock : MethodName := ⟨RX1, "hasBlock", "(I)Z"⟩
abbrev cX1_hasEnd : ByteArray := prog_1_method_19_code
def yX1_hasEnd : MethodName := ⟨RX1, "hasEnd", "(II)Z"⟩
abbrev cX1_isBox : ByteArray := prog_1_method_20_code
def yX1_isBox : MethodName := ⟨RX1, "isBox", "(IIIIII)Z"⟩
abbrev cX1_isPlace : ByteArray := prog_1_method_21_code
def yX1_isPlace : MethodName := ⟨RX1, "isPlace", "(III)Z"⟩
abbrev cX1_isSpan : ByteArray := prog_1_method_22_code
def yX1_isSpan : MethodName := ⟨RX1, "isSpan", "(II)Z"⟩
abbrev cX1_isParted : ByteArray := prog_1_method_23_code
def yX1_isParted : MethodName := ⟨RX1, "isParted", "(I)Z"⟩
abbrev cX1_makeBlock : ByteArray := prog_1_method_24_code
def yX1_makeBlock : MethodName := ⟨RX1, "makeBlock", "(III)V"⟩
abbrev cX1_setBounds : ByteArray := prog_1_method_25_code
def yX1_setBounds : MethodName := ⟨RX1, "setBounds", "(I)V"⟩
abbrev cX1_widestAxis : ByteArray := prog_1_method_26_code
def yX1_widestAxis : MethodName := ⟨RX1, "widestAxis", "(II)I"⟩
abbrev cX1_spread : ByteArray := prog_1_method_27_code
def yX1_spread : MethodName := ⟨RX1, "spread", "(III)I"⟩
abbrev cX1_sortRun : ByteArray := prog_1_method_28_code
def yX1_sortRun : MethodName := ⟨RX1, "sortRun", "(III)V"⟩
abbrev cX1_comesBefore : ByteArray := prog_1_method_29_code
def yX1_comesBefore : MethodName := ⟨RX1, "comesBefore", "(III)Z"⟩
abbrev cX1_forgetAsked : ByteArray := prog_1_method_30_code
def yX1_forgetAsked : MethodName := ⟨RX1, "forgetAsked", "()V"⟩
abbrev cX1_askBlocks : ByteArray := prog_1_method_31_code
def yX1_askBlocks : MethodName := ⟨RX1, "askBlocks", "(I)V"⟩
abbrev cX1_verdictOn : ByteArray := prog_1_method_32_code
def yX1_verdictOn : MethodName := ⟨RX1, "verdictOn", "(II)I"⟩
abbrev cX1_findAllOf : ByteArray := prog_1_method_33_code
def yX1_findAllOf : MethodName := ⟨RX1, "findAllOf", "(I)V"⟩
abbrev cX1_askThingsOf : ByteArray := prog_1_method_34_code
def yX1_askThingsOf : MethodName := ⟨RX1, "askThingsOf", "(II)V"⟩
abbrev cX1_askThing : ByteArray := prog_1_method_35_code
def yX1_askThing : MethodName := ⟨RX1, "askThing", "(II)V"⟩
abbrev cX1_markFound : ByteArray := prog_1_method_36_code
def yX1_markFound : MethodName := ⟨RX1, "markFound", "(I)V"⟩
abbrev cX1_isSo : ByteArray := prog_1_method_37_code
def yX1_isSo : MethodName := ⟨RX1, "isSo", "(II)Z"⟩
abbrev cX1_nearerThan : ByteArray := prog_1_method_38_code
def yX1_nearerThan : MethodName := ⟨RX1, "nearerThan", "(I)I"⟩
abbrev cX1_isNearer : ByteArray := prog_1_method_39_code
def yX1_isNearer : MethodName := ⟨RX1, "isNearer", "(II)Z"⟩
def RX2 : String := "PointTreesModel"
def TX2 : u_T := fun k => match k with
  | 0 => ("PointTreesModel", "thrown", "I", false)
  | 1 => ("PointTreesModel", "axes", "I", false)
  | 2 => ("PointTreesModel", "made", "I", false)
  | 3 => ("PointTreesModel", "there", "[Z", true)
  | 4 => ("PointTreesModel", "lows", "[I", true)
  | 5 => ("PointTreesModel", "highs", "[I", true)
  | 6 => ("PointTreesModel", "inTree", "[Z", true)
  | 7 => ("PointTreesModel", "row", "[I", true)
  | 8 => ("PointTreesModel", "blocks", "I", false)
  | 9 => ("PointTreesModel", "froms", "[I", true)
  | 10 => ("PointTreesModel", "manys", "[I", true)
  | 11 => ("PointTreesModel", "others", "[I", true)
  | 12 => ("PointTreesModel", "depths", "[I", true)
  | 13 => ("PointTreesModel", "leasts", "[I", true)
  | 14 => ("PointTreesModel", "greatests", "[I", true)
  | 15 => ("PointTreesModel", "waiting", "I", false)
  | 16 => ("PointTreesModel", "waitFrom", "[I", true)
  | 17 => ("PointTreesModel", "waitMany", "[I", true)
  | 18 => ("PointTreesModel", "waitDepth", "[I", true)
  | 19 => ("PointTreesModel", "waitOf", "[I", true)
  | 20 => ("PointTreesModel", "low", "[I", true)
  | 21 => ("PointTreesModel", "high", "[I", true)
  | 22 => ("PointTreesModel", "isFound", "[Z", true)
  | 23 => ("PointTreesModel", "foundMany", "I", false)
  | 24 => ("PointTreesModel", "opened", "I", false)
  | 25 => ("PointTreesModel", "settled", "I", false)
  | _ => ("PointTreesModel", "foundThere", "I", false)
def tyX2 : Nat → FieldType := fun k => match k with
  | 0 => .int
  | 1 => .int
  | 2 => .int
  | 3 => .array .boolean
  | 4 => .array .int
  | 5 => .array .int
  | 6 => .array .boolean
  | 7 => .array .int
  | 8 => .int
  | 9 => .array .int
  | 10 => .array .int
  | 11 => .array .int
  | 12 => .array .int
  | 13 => .array .int
  | 14 => .array .int
  | 15 => .int
  | 16 => .array .int
  | 17 => .array .int
  | 18 => .array .int
  | 19 => .array .int
  | 20 => .array .int
  | 21 => .array .int
  | 22 => .array .boolean
  | 23 => .int
  | 24 => .int
  | 25 => .int
  | _ => .int
abbrev wsX20 : List Cond := u_ws RX2 TX2 27
theorem nmX2 : ∀ a, a < 27 → ∀ b, b < 27 → a ≠ b → (TX2 a).2.1 ≠ (TX2 b).2.1 := by decide +kernel
theorem tyX2_ok : ∀ k, k < 27 → parseFieldDescriptor (TX2 k).2.2.1 = some (tyX2 k) := by decide +kernel
abbrev cX2_init : ByteArray := prog_4_method_1_code
def yX2_init : MethodName := ⟨RX2, "<init>", "()V"⟩
abbrev cX2_thrown : ByteArray := prog_4_method_2_code
def yX2_thrown : MethodName := ⟨RX2, "thrown", "()I"⟩
abbrev cX2_isThing : ByteArray := prog_4_method_3_code
def yX2_isThing : MethodName := ⟨RX2, "isThing", "(I)Z"⟩
abbrev cX2_isPlace : ByteArray := prog_4_method_4_code
def yX2_isPlace : MethodName := ⟨RX2, "isPlace", "(I)Z"⟩
abbrev cX2_dimensions : ByteArray := prog_4_method_5_code
def yX2_dimensions : MethodName := ⟨RX2, "dimensions", "(I)I"⟩
abbrev cX2_tells : ByteArray := prog_4_method_6_code
def yX2_tells : MethodName := ⟨RX2, "tells", "(IIIIII)Z"⟩
abbrev cX2_thing : ByteArray := prog_4_method_7_code
def yX2_thing : MethodName := ⟨RX2, "thing", "(IIIIII)I"⟩
abbrev cX2_count : ByteArray := prog_4_method_8_code
def yX2_count : MethodName := ⟨RX2, "count", "()I"⟩
abbrev cX2_drop : ByteArray := prog_4_method_9_code
def yX2_drop : MethodName := ⟨RX2, "drop", "(I)I"⟩
abbrev cX2_end : ByteArray := prog_4_method_10_code
def yX2_end : MethodName := ⟨RX2, "end", "(III)J"⟩
abbrev cX2_sum : ByteArray := prog_4_method_11_code
def yX2_sum : MethodName := ⟨RX2, "sum", "(II)I"⟩
abbrev cX2_await : ByteArray := prog_4_method_12_code
def yX2_await : MethodName := ⟨RX2, "await", "(IIII)V"⟩
abbrev cX2_look : ByteArray := prog_4_method_13_code
def yX2_look : MethodName := ⟨RX2, "look", "(I)I"⟩
abbrev cX2_sort : ByteArray := prog_4_method_14_code
def yX2_sort : MethodName := ⟨RX2, "sort", "(III)V"⟩
abbrev cX2_build : ByteArray := prog_4_method_15_code
def yX2_build : MethodName := ⟨RX2, "build", "()I"⟩
abbrev cX2_isBlock : ByteArray := prog_4_method_16_code
def yX2_isBlock : MethodName := ⟨RX2, "isBlock", "(I)Z"⟩
abbrev cX2_block : ByteArray := prog_4_method_17_code
def yX2_block : MethodName := ⟨RX2, "block", "(II)I"⟩
abbrev cX2_bound : ByteArray := prog_4_method_18_code
def yX2_bound : MethodName := ⟨RX2, "bound", "(III)J"⟩
abbrev cX2_isSo : ByteArray := prog_4_method_19_code
def yX2_isSo : MethodName := ⟨RX2, "isSo", "(I[I[II)Z"⟩
abbrev cX2_tellsOf : ByteArray := prog_4_method_20_code
def yX2_tellsOf : MethodName := ⟨RX2, "tellsOf", "(II)I"⟩
abbrev cX2_find : ByteArray := prog_4_method_21_code
def yX2_find : MethodName := ⟨RX2, "find", "(I)V"⟩
abbrev cX2_range : ByteArray := prog_4_method_22_code
def yX2_range : MethodName := ⟨RX2, "range", "(IIIIIII)I"⟩
abbrev cX2_found : ByteArray := prog_4_method_23_code
def yX2_found : MethodName := ⟨RX2, "found", "(I)I"⟩
abbrev cX2_told : ByteArray := prog_4_method_24_code
def yX2_told : MethodName := ⟨RX2, "told", "(I)I"⟩
abbrev cX2_isAt : ByteArray := prog_4_method_25_code
def yX2_isAt : MethodName := ⟨RX2, "isAt", "(III)Z"⟩
abbrev cX2_square : ByteArray := prog_4_method_26_code
def yX2_square : MethodName := ⟨RX2, "square", "(IIII)J"⟩
abbrev cX2_nearest : ByteArray := prog_4_method_27_code
def yX2_nearest : MethodName := ⟨RX2, "nearest", "(IIII)I"⟩
abbrev cX2_distance : ByteArray := prog_4_method_28_code
def yX2_distance : MethodName := ⟨RX2, "distance", "(IIII)J"⟩
abbrev cX2_pairs : ByteArray := prog_4_method_29_code
def yX2_pairs : MethodName := ⟨RX2, "pairs", "()I"⟩
abbrev cX2_day : ByteArray := prog_4_method_30_code
def yX2_day : MethodName := ⟨RX2, "day", "(JJ)J"⟩
def RJ9 : String := "java/lang/Math"
def TJ9 : u_T := fun k => match k with
  | _ => ("", "", "", false)
def tyJ9 : Nat → FieldType := fun k => match k with
  | _ => .int
abbrev wsJ90 : List Cond := u_ws RJ9 TJ9 0
theorem nmJ9 : ∀ a, a < 0 → ∀ b, b < 0 → a ≠ b → (TJ9 a).2.1 ≠ (TJ9 b).2.1 := by decide +kernel
theorem tyJ9_ok : ∀ k, k < 0 → parseFieldDescriptor (TJ9 k).2.2.1 = some (tyJ9 k) := by decide +kernel
abbrev cJ9_floorDiv_f86c9 : ByteArray := prog_7_method_49_code
def yJ9_floorDiv_f86c9 : MethodName := ⟨RJ9, "floorDiv", "(JJ)J"⟩
abbrev cJ9_max_7cf53 : ByteArray := prog_7_method_65_code
def yJ9_max_7cf53 : MethodName := ⟨RJ9, "max", "(II)I"⟩
abbrev cJ9_max_f86c9 : ByteArray := prog_7_method_66_code
def yJ9_max_f86c9 : MethodName := ⟨RJ9, "max", "(JJ)J"⟩
abbrev cJ9_min_7cf53 : ByteArray := prog_7_method_69_code
def yJ9_min_7cf53 : MethodName := ⟨RJ9, "min", "(II)I"⟩
def RJ0 : String := "java/lang/String"
def TJ0 : u_T := fun k => match k with
  | _ => ("", "", "", false)
def tyJ0 : Nat → FieldType := fun k => match k with
  | _ => .int
abbrev wsJ00 : List Cond := u_ws RJ0 TJ0 0
theorem nmJ0 : ∀ a, a < 0 → ∀ b, b < 0 → a ≠ b → (TJ0 a).2.1 ≠ (TJ0 b).2.1 := by decide +kernel
theorem tyJ0_ok : ∀ k, k < 0 → parseFieldDescriptor (TJ0 k).2.2.1 = some (tyJ0 k) := by decide +kernel
def RL : String := "PointTreesLaw"
abbrev cL_day : ByteArray := method_3_code
def yL_day : MethodName := ⟨RL, "day", "(LPointTrees;JJ[J)I"⟩
abbrev cL_law : ByteArray := code
def yL_law : MethodName := ⟨RL, "law", "([I)Z"⟩
def wsX0_init : List Cond := .code yX0_init cX0_init 2 none :: ([.methodLink RX0 5 objectInit, .instanceMethod objectInit, .code objectInit ⟨#[0xb1]⟩ 1 none, .arrayClass .int, .fieldLink RX0 11 "PointTrees$Boxes" "ends" "[I"] ++ wsX00)
def wsX0_at : List Cond := .code yX0_at cX0_at 4 (some .int) :: ([.fieldLink RX0 11 "PointTrees$Boxes" "ends" "[I"] ++ wsX00)
def wsX0_putSpan : List Cond := .code yX0_putSpan cX0_putSpan 5 none :: ([.fieldLink RX0 11 "PointTrees$Boxes" "ends" "[I"] ++ wsX00)
def wsX0_put : List Cond := .code yX0_put cX0_put 8 none :: ([.methodLink RX0 15 yX0_putSpan, .instanceMethod yX0_putSpan, .selects RX0 yX0_putSpan yX0_putSpan, .initialized RX0, .code yX0_putSpan cX0_putSpan 5 none, .fieldLink RX0 11 "PointTrees$Boxes" "ends" "[I"] ++ wsX00)
def wsX0_copyFrom : List Cond := .code yX0_copyFrom cX0_copyFrom 5 none :: ([.methodLink RX0 19 yX0_at, .instanceMethod yX0_at, .selects RX0 yX0_at yX0_at, .initialized RX0, .code yX0_at cX0_at 4 (some .int), .fieldLink RX0 11 "PointTrees$Boxes" "ends" "[I", .methodLink RX0 15 yX0_putSpan, .instanceMethod yX0_putSpan, .selects RX0 yX0_putSpan yX0_putSpan, .code yX0_putSpan cX0_putSpan 5 none] ++ wsX00)
def wsX0_widen : List Cond := .code yX0_widen cX0_widen 7 none :: ([.methodLink RX0 23 Lib.Math.min.name, .static Lib.Math.min.name, .initialized "java/lang/Math", .code Lib.Math.min.name Lib.Math.min.code 2 (some .int), .methodLink RX0 29 Lib.Math.max.name, .static Lib.Math.max.name, .code Lib.Math.max.name Lib.Math.max.code 2 (some .int), .methodLink RX0 19 yX0_at, .instanceMethod yX0_at, .selects RX0 yX0_at yX0_at, .initialized RX0, .code yX0_at cX0_at 4 (some .int), .fieldLink RX0 11 "PointTrees$Boxes" "ends" "[I", .methodLink RX0 15 yX0_putSpan, .instanceMethod yX0_putSpan, .selects RX0 yX0_putSpan yX0_putSpan, .code yX0_putSpan cX0_putSpan 5 none] ++ wsX00)
def wsX0_sum : List Cond := .code yX0_sum cX0_sum 3 (some .int) :: ([.methodLink RX0 19 yX0_at, .instanceMethod yX0_at, .selects RX0 yX0_at yX0_at, .initialized RX0, .code yX0_at cX0_at 4 (some .int), .fieldLink RX0 11 "PointTrees$Boxes" "ends" "[I"] ++ wsX00)
def wsX0_squareOnAxis : List Cond := .code yX0_squareOnAxis cX0_squareOnAxis 10 (some .long) :: ([.methodLink RX0 36 Lib.MathLoose.max_long.x, .static Lib.MathLoose.max_long.x, .initialized "java/lang/Math", .code Lib.MathLoose.max_long.x Lib.MathLoose.max_long.code 4 (some .long), .methodLink RX0 19 yX0_at, .instanceMethod yX0_at, .selects RX0 yX0_at yX0_at, .initialized RX0, .code yX0_at cX0_at 4 (some .int), .fieldLink RX0 11 "PointTrees$Boxes" "ends" "[I"] ++ wsX00)
def wsX0_squareTo : List Cond := .code yX0_squareTo cX0_squareTo 8 (some .long) :: ([.methodLink RX0 32 yX0_squareOnAxis, .instanceMethod yX0_squareOnAxis, .selects RX0 yX0_squareOnAxis yX0_squareOnAxis, .initialized RX0, .code yX0_squareOnAxis cX0_squareOnAxis 10 (some .long), .methodLink RX0 36 Lib.MathLoose.max_long.x, .static Lib.MathLoose.max_long.x, .initialized "java/lang/Math", .code Lib.MathLoose.max_long.x Lib.MathLoose.max_long.code 4 (some .long), .methodLink RX0 19 yX0_at, .instanceMethod yX0_at, .selects RX0 yX0_at yX0_at, .code yX0_at cX0_at 4 (some .int), .fieldLink RX0 11 "PointTrees$Boxes" "ends" "[I"] ++ wsX00)
def wsX0_meet : List Cond := .code yX0_meet cX0_meet 6 (some .boolean) :: ([.methodLink RX0 19 yX0_at, .instanceMethod yX0_at, .selects RX0 yX0_at yX0_at, .initialized RX0, .code yX0_at cX0_at 4 (some .int), .fieldLink RX0 11 "PointTrees$Boxes" "ends" "[I"] ++ wsX00)
def wsX0_within : List Cond := .code yX0_within cX0_within 6 (some .boolean) :: ([.methodLink RX0 19 yX0_at, .instanceMethod yX0_at, .selects RX0 yX0_at yX0_at, .initialized RX0, .code yX0_at cX0_at 4 (some .int), .fieldLink RX0 11 "PointTrees$Boxes" "ends" "[I"] ++ wsX00)
def wsX1_init_r1 : List Cond := [Cond.methodLink RX1 3 objectInit, Cond.instanceMethod objectInit, Cond.code objectInit ⟨#[0xb1]⟩ 1 none, Cond.fieldLink RX1 9 "PointTrees" "axes" "I", Cond.arrayClass .boolean, Cond.fieldLink RX1 15 "PointTrees" "isThere" "[Z", Cond.classLink RX1 19 RX0, Cond.instantiable RX0 1, Cond.initialized RX0, Cond.fieldLink RX1 24 "PointTrees" "things" "LPointTrees$Boxes;", Cond.arrayClass .int, Cond.fieldLink RX1 28 "PointTrees" "order" "[I", Cond.fieldLink RX1 32 "PointTrees" "blockFrom" "[I", Cond.fieldLink RX1 35 "PointTrees" "blockTo" "[I", Cond.fieldLink RX1 38 "PointTrees" "otherHalf" "[I", Cond.fieldLink RX1 41 "PointTrees" "blockDepth" "[I", Cond.fieldLink RX1 44 "PointTrees" "bounds" "LPointTrees$Boxes;", Cond.fieldLink RX1 47 "PointTrees" "asked" "LPointTrees$Boxes;", Cond.fieldLink RX1 50 "PointTrees" "isFound" "[Z", Cond.fieldLink RX1 53 "PointTrees" "toldCounts" "[I", Cond.arrayClass .long, Cond.fieldLink RX1 56 "PointTrees" "squares" "[J", Cond.instanceMethod yX0_init, Cond.code yX0_init cX0_init 2 none]
def wsX1_init_r2 : List Cond := [Cond.methodLink RX0 5 objectInit, Cond.fieldLink RX0 11 "PointTrees$Boxes" "ends" "[I"]
def wsX1_init : List Cond := .code yX1_init cX1_init 1 none :: ((wsX1_init_r1 ++ wsX1_init_r2) ++ wsX10 ++ wsX00)
def wsX1_forgetAsked : List Cond := .code yX1_forgetAsked cX1_forgetAsked 2 none :: ([.fieldLink RX1 50 "PointTrees" "isFound" "[Z", .fieldLink RX1 114 "PointTrees" "foundCount" "I", .fieldLink RX1 53 "PointTrees" "toldCounts" "[I"] ++ wsX10)
def wsX1_dimensions : List Cond := .code yX1_dimensions cX1_dimensions 3 (some .int) :: ([.fieldLink RX1 9 "PointTrees" "axes" "I", .fieldLink RX1 60 "PointTrees" "made" "I", .fieldLink RX1 63 "PointTrees" "present" "I", .fieldLink RX1 66 "PointTrees" "blocks" "I", .fieldLink RX1 69 "PointTrees" "firstLoose" "I", .methodLink RX1 72 yX1_forgetAsked, .instanceMethod yX1_forgetAsked, .selects RX1 yX1_forgetAsked yX1_forgetAsked, .initialized RX1, .code yX1_forgetAsked cX1_forgetAsked 2 none, .fieldLink RX1 50 "PointTrees" "isFound" "[Z", .fieldLink RX1 114 "PointTrees" "foundCount" "I", .fieldLink RX1 53 "PointTrees" "toldCounts" "[I"] ++ wsX10)
def wsX1_isSpan : List Cond := .code yX1_isSpan cX1_isSpan 2 (some .boolean) :: ([.constant RX1 149 (-1000000), .constant RX1 150 (1000000)])
def wsX1_isBox : List Cond := .code yX1_isBox cX1_isBox 7 (some .boolean) :: ([.fieldLink RX1 9 "PointTrees" "axes" "I", .methodLink RX1 146 yX1_isSpan, .static yX1_isSpan, .initialized RX1, .code yX1_isSpan cX1_isSpan 2 (some .boolean), .constant RX1 149 (-1000000), .constant RX1 150 (1000000)] ++ wsX10)
def wsX1_thing : List Cond := .code yX1_thing cX1_thing 8 (some .int) :: ([.fieldLink RX1 60 "PointTrees" "made" "I", .fieldLink RX1 24 "PointTrees" "things" "LPointTrees$Boxes;", .fieldLink RX1 15 "PointTrees" "isThere" "[Z", .fieldLink RX1 63 "PointTrees" "present" "I", .methodLink RX1 75 yX1_isBox, .instanceMethod yX1_isBox, .selects RX1 yX1_isBox yX1_isBox, .initialized RX1, .code yX1_isBox cX1_isBox 7 (some .boolean), .fieldLink RX1 9 "PointTrees" "axes" "I", .methodLink RX1 146 yX1_isSpan, .static yX1_isSpan, .code yX1_isSpan cX1_isSpan 2 (some .boolean), .constant RX1 149 (-1000000), .constant RX1 150 (1000000), .instanceMethod yX0_put, .initialized RX0, .selects RX0 yX0_put yX0_put, .code yX0_put cX0_put 8 none, .methodLink RX0 15 yX0_putSpan, .instanceMethod yX0_putSpan, .selects RX0 yX0_putSpan yX0_putSpan, .code yX0_putSpan cX0_putSpan 5 none, .fieldLink RX0 11 "PointTrees$Boxes" "ends" "[I"] ++ wsX10 ++ wsX00)
def wsX1_hasThing : List Cond := .code yX1_hasThing cX1_hasThing 2 (some .boolean) :: ([.fieldLink RX1 60 "PointTrees" "made" "I", .fieldLink RX1 15 "PointTrees" "isThere" "[Z"] ++ wsX10)
def wsX1_drop : List Cond := .code yX1_drop cX1_drop 2 (some .int) :: ([.fieldLink RX1 15 "PointTrees" "isThere" "[Z", .fieldLink RX1 63 "PointTrees" "present" "I", .methodLink RX1 83 yX1_hasThing, .instanceMethod yX1_hasThing, .selects RX1 yX1_hasThing yX1_hasThing, .initialized RX1, .code yX1_hasThing cX1_hasThing 2 (some .boolean), .fieldLink RX1 60 "PointTrees" "made" "I"] ++ wsX10)
def wsX1_count : List Cond := .code yX1_count cX1_count 1 (some .int) :: ([.fieldLink RX1 63 "PointTrees" "present" "I"] ++ wsX10)
def wsX1_hasEnd : List Cond := .code yX1_hasEnd cX1_hasEnd 3 (some .boolean) :: ([.fieldLink RX1 9 "PointTrees" "axes" "I"] ++ wsX10)
def wsX1_end : List Cond := .code yX1_end cX1_end 4 (some .long) :: ([.constantLong RX1 91 (-9223372036854775808), .fieldLink RX1 24 "PointTrees" "things" "LPointTrees$Boxes;", .methodLink RX1 83 yX1_hasThing, .instanceMethod yX1_hasThing, .selects RX1 yX1_hasThing yX1_hasThing, .initialized RX1, .code yX1_hasThing cX1_hasThing 2 (some .boolean), .fieldLink RX1 60 "PointTrees" "made" "I", .fieldLink RX1 15 "PointTrees" "isThere" "[Z", .methodLink RX1 87 yX1_hasEnd, .instanceMethod yX1_hasEnd, .selects RX1 yX1_hasEnd yX1_hasEnd, .code yX1_hasEnd cX1_hasEnd 3 (some .boolean), .fieldLink RX1 9 "PointTrees" "axes" "I", .instanceMethod yX0_at, .initialized RX0, .selects RX0 yX0_at yX0_at, .code yX0_at cX0_at 4 (some .int), .fieldLink RX0 11 "PointTrees$Boxes" "ends" "[I"] ++ wsX10 ++ wsX00)
def wsX1_setBounds_r1 : List Cond := [Cond.fieldLink RX1 44 "PointTrees" "bounds" "LPointTrees$Boxes;", Cond.fieldLink RX1 24 "PointTrees" "things" "LPointTrees$Boxes;", Cond.fieldLink RX1 28 "PointTrees" "order" "[I", Cond.fieldLink RX1 32 "PointTrees" "blockFrom" "[I", Cond.fieldLink RX1 35 "PointTrees" "blockTo" "[I", Cond.instanceMethod yX0_copyFrom, Cond.initialized RX0, Cond.selects RX0 yX0_copyFrom yX0_copyFrom, Cond.code yX0_copyFrom cX0_copyFrom 5 none, Cond.methodLink RX0 19 yX0_at, Cond.instanceMethod yX0_at, Cond.selects RX0 yX0_at yX0_at, Cond.code yX0_at cX0_at 4 (some .int), Cond.fieldLink RX0 11 "PointTrees$Boxes" "ends" "[I", Cond.methodLink RX0 15 yX0_putSpan, Cond.instanceMethod yX0_putSpan, Cond.selects RX0 yX0_putSpan yX0_putSpan, Cond.code yX0_putSpan cX0_putSpan 5 none, Cond.instanceMethod yX0_widen, Cond.selects RX0 yX0_widen yX0_widen, Cond.code yX0_widen cX0_widen 7 none, Cond.methodLink RX0 23 Lib.Math.min.name, Cond.static Lib.Math.min.name, Cond.initialized "java/lang/Math"]
def wsX1_setBounds_r2 : List Cond := [Cond.code Lib.Math.min.name Lib.Math.min.code 2 (some .int), Cond.methodLink RX0 29 Lib.Math.max.name, Cond.static Lib.Math.max.name, Cond.code Lib.Math.max.name Lib.Math.max.code 2 (some .int)]
def wsX1_setBounds : List Cond := .code yX1_setBounds cX1_setBounds 3 none :: ((wsX1_setBounds_r1 ++ wsX1_setBounds_r2) ++ wsX10 ++ wsX00)
def wsX1_spread : List Cond := .code yX1_spread cX1_spread 8 (some .int) :: ([.fieldLink RX1 24 "PointTrees" "things" "LPointTrees$Boxes;", .fieldLink RX1 28 "PointTrees" "order" "[I", .methodLink RX1 174 Lib.Math.min.name, .static Lib.Math.min.name, .initialized "java/lang/Math", .code Lib.Math.min.name Lib.Math.min.code 2 (some .int), .methodLink RX1 177 Lib.Math.max.name, .static Lib.Math.max.name, .code Lib.Math.max.name Lib.Math.max.code 2 (some .int), .instanceMethod yX0_sum, .initialized RX0, .selects RX0 yX0_sum yX0_sum, .code yX0_sum cX0_sum 3 (some .int), .methodLink RX0 19 yX0_at, .instanceMethod yX0_at, .selects RX0 yX0_at yX0_at, .code yX0_at cX0_at 4 (some .int), .fieldLink RX0 11 "PointTrees$Boxes" "ends" "[I"] ++ wsX10 ++ wsX00)
def wsX1_widestAxis : List Cond := .code yX1_widestAxis cX1_widestAxis 5 (some .int) :: ([.fieldLink RX1 9 "PointTrees" "axes" "I", .methodLink RX1 168 yX1_spread, .instanceMethod yX1_spread, .selects RX1 yX1_spread yX1_spread, .initialized RX1, .code yX1_spread cX1_spread 8 (some .int), .fieldLink RX1 24 "PointTrees" "things" "LPointTrees$Boxes;", .fieldLink RX1 28 "PointTrees" "order" "[I", .methodLink RX1 174 Lib.Math.min.name, .static Lib.Math.min.name, .initialized "java/lang/Math", .code Lib.Math.min.name Lib.Math.min.code 2 (some .int), .methodLink RX1 177 Lib.Math.max.name, .static Lib.Math.max.name, .code Lib.Math.max.name Lib.Math.max.code 2 (some .int), .instanceMethod yX0_sum, .initialized RX0, .selects RX0 yX0_sum yX0_sum, .code yX0_sum cX0_sum 3 (some .int), .methodLink RX0 19 yX0_at, .instanceMethod yX0_at, .selects RX0 yX0_at yX0_at, .code yX0_at cX0_at 4 (some .int), .fieldLink RX0 11 "PointTrees$Boxes" "ends" "[I"] ++ wsX10 ++ wsX00)
def wsX1_comesBefore : List Cond := .code yX1_comesBefore cX1_comesBefore 6 (some .boolean) :: ([.fieldLink RX1 24 "PointTrees" "things" "LPointTrees$Boxes;", .instanceMethod yX0_sum, .initialized RX0, .selects RX0 yX0_sum yX0_sum, .code yX0_sum cX0_sum 3 (some .int), .methodLink RX0 19 yX0_at, .instanceMethod yX0_at, .selects RX0 yX0_at yX0_at, .code yX0_at cX0_at 4 (some .int), .fieldLink RX0 11 "PointTrees$Boxes" "ends" "[I"] ++ wsX10 ++ wsX00)
def wsX1_sortRun : List Cond := .code yX1_sortRun cX1_sortRun 7 none :: ([.fieldLink RX1 28 "PointTrees" "order" "[I", .methodLink RX1 180 yX1_comesBefore, .instanceMethod yX1_comesBefore, .selects RX1 yX1_comesBefore yX1_comesBefore, .initialized RX1, .code yX1_comesBefore cX1_comesBefore 6 (some .boolean), .fieldLink RX1 24 "PointTrees" "things" "LPointTrees$Boxes;", .instanceMethod yX0_sum, .initialized RX0, .selects RX0 yX0_sum yX0_sum, .code yX0_sum cX0_sum 3 (some .int), .methodLink RX0 19 yX0_at, .instanceMethod yX0_at, .selects RX0 yX0_at yX0_at, .code yX0_at cX0_at 4 (some .int), .fieldLink RX0 11 "PointTrees$Boxes" "ends" "[I"] ++ wsX10 ++ wsX00)
def wsX1_makeBlock_r1 : List Cond := [Cond.fieldLink RX1 66 "PointTrees" "blocks" "I", Cond.fieldLink RX1 32 "PointTrees" "blockFrom" "[I", Cond.fieldLink RX1 35 "PointTrees" "blockTo" "[I", Cond.fieldLink RX1 38 "PointTrees" "otherHalf" "[I", Cond.fieldLink RX1 41 "PointTrees" "blockDepth" "[I", Cond.methodLink RX1 151 yX1_setBounds, Cond.instanceMethod yX1_setBounds, Cond.selects RX1 yX1_setBounds yX1_setBounds, Cond.initialized RX1, Cond.code yX1_setBounds cX1_setBounds 3 none, Cond.fieldLink RX1 44 "PointTrees" "bounds" "LPointTrees$Boxes;", Cond.fieldLink RX1 24 "PointTrees" "things" "LPointTrees$Boxes;", Cond.fieldLink RX1 28 "PointTrees" "order" "[I", Cond.instanceMethod yX0_copyFrom, Cond.initialized RX0, Cond.selects RX0 yX0_copyFrom yX0_copyFrom, Cond.code yX0_copyFrom cX0_copyFrom 5 none, Cond.methodLink RX0 19 yX0_at, Cond.instanceMethod yX0_at, Cond.selects RX0 yX0_at yX0_at, Cond.code yX0_at cX0_at 4 (some .int), Cond.fieldLink RX0 11 "PointTrees$Boxes" "ends" "[I", Cond.methodLink RX0 15 yX0_putSpan, Cond.instanceMethod yX0_putSpan]
def wsX1_makeBlock_r2 : List Cond := [Cond.selects RX0 yX0_putSpan yX0_putSpan, Cond.code yX0_putSpan cX0_putSpan 5 none, Cond.instanceMethod yX0_widen, Cond.selects RX0 yX0_widen yX0_widen, Cond.code yX0_widen cX0_widen 7 none, Cond.methodLink RX0 23 Lib.Math.min.name, Cond.static Lib.Math.min.name, Cond.initialized "java/lang/Math", Cond.code Lib.Math.min.name Lib.Math.min.code 2 (some .int), Cond.methodLink RX0 29 Lib.Math.max.name, Cond.static Lib.Math.max.name, Cond.code Lib.Math.max.name Lib.Math.max.code 2 (some .int), Cond.methodLink RX1 154 yX1_widestAxis, Cond.instanceMethod yX1_widestAxis, Cond.selects RX1 yX1_widestAxis yX1_widestAxis, Cond.code yX1_widestAxis cX1_widestAxis 5 (some .int), Cond.fieldLink RX1 9 "PointTrees" "axes" "I", Cond.methodLink RX1 168 yX1_spread, Cond.instanceMethod yX1_spread, Cond.selects RX1 yX1_spread yX1_spread, Cond.code yX1_spread cX1_spread 8 (some .int), Cond.methodLink RX1 174 Lib.Math.min.name, Cond.methodLink RX1 177 Lib.Math.max.name, Cond.instanceMethod yX0_sum]
def wsX1_makeBlock_r3 : List Cond := [Cond.selects RX0 yX0_sum yX0_sum, Cond.code yX0_sum cX0_sum 3 (some .int), Cond.methodLink RX1 158 yX1_sortRun, Cond.instanceMethod yX1_sortRun, Cond.selects RX1 yX1_sortRun yX1_sortRun, Cond.code yX1_sortRun cX1_sortRun 7 none, Cond.methodLink RX1 180 yX1_comesBefore, Cond.instanceMethod yX1_comesBefore, Cond.selects RX1 yX1_comesBefore yX1_comesBefore, Cond.code yX1_comesBefore cX1_comesBefore 6 (some .boolean), Cond.methodLink RX1 97 yX1_makeBlock, Cond.instanceMethod yX1_makeBlock, Cond.selects RX1 yX1_makeBlock yX1_makeBlock]
def wsX1_makeBlock : List Cond := .code yX1_makeBlock cX1_makeBlock 6 none :: ((wsX1_makeBlock_r1 ++ (wsX1_makeBlock_r2 ++ wsX1_makeBlock_r3)) ++ wsX10 ++ wsX00)
def wsX1_build_r1 : List Cond := [Cond.fieldLink RX1 66 "PointTrees" "blocks" "I", Cond.fieldLink RX1 60 "PointTrees" "made" "I", Cond.fieldLink RX1 69 "PointTrees" "firstLoose" "I", Cond.fieldLink RX1 15 "PointTrees" "isThere" "[Z", Cond.fieldLink RX1 28 "PointTrees" "order" "[I", Cond.methodLink RX1 97 yX1_makeBlock, Cond.instanceMethod yX1_makeBlock, Cond.selects RX1 yX1_makeBlock yX1_makeBlock, Cond.initialized RX1, Cond.code yX1_makeBlock cX1_makeBlock 6 none, Cond.fieldLink RX1 32 "PointTrees" "blockFrom" "[I", Cond.fieldLink RX1 35 "PointTrees" "blockTo" "[I", Cond.fieldLink RX1 38 "PointTrees" "otherHalf" "[I", Cond.fieldLink RX1 41 "PointTrees" "blockDepth" "[I", Cond.methodLink RX1 151 yX1_setBounds, Cond.instanceMethod yX1_setBounds, Cond.selects RX1 yX1_setBounds yX1_setBounds, Cond.code yX1_setBounds cX1_setBounds 3 none, Cond.fieldLink RX1 44 "PointTrees" "bounds" "LPointTrees$Boxes;", Cond.fieldLink RX1 24 "PointTrees" "things" "LPointTrees$Boxes;", Cond.instanceMethod yX0_copyFrom, Cond.initialized RX0, Cond.selects RX0 yX0_copyFrom yX0_copyFrom, Cond.code yX0_copyFrom cX0_copyFrom 5 none]
def wsX1_build_r2 : List Cond := [Cond.methodLink RX0 19 yX0_at, Cond.instanceMethod yX0_at, Cond.selects RX0 yX0_at yX0_at, Cond.code yX0_at cX0_at 4 (some .int), Cond.fieldLink RX0 11 "PointTrees$Boxes" "ends" "[I", Cond.methodLink RX0 15 yX0_putSpan, Cond.instanceMethod yX0_putSpan, Cond.selects RX0 yX0_putSpan yX0_putSpan, Cond.code yX0_putSpan cX0_putSpan 5 none, Cond.instanceMethod yX0_widen, Cond.selects RX0 yX0_widen yX0_widen, Cond.code yX0_widen cX0_widen 7 none, Cond.methodLink RX0 23 Lib.Math.min.name, Cond.static Lib.Math.min.name, Cond.initialized "java/lang/Math", Cond.code Lib.Math.min.name Lib.Math.min.code 2 (some .int), Cond.methodLink RX0 29 Lib.Math.max.name, Cond.static Lib.Math.max.name, Cond.code Lib.Math.max.name Lib.Math.max.code 2 (some .int), Cond.methodLink RX1 154 yX1_widestAxis, Cond.instanceMethod yX1_widestAxis, Cond.selects RX1 yX1_widestAxis yX1_widestAxis, Cond.code yX1_widestAxis cX1_widestAxis 5 (some .int), Cond.fieldLink RX1 9 "PointTrees" "axes" "I"]
def wsX1_build_r3 : List Cond := [Cond.methodLink RX1 168 yX1_spread, Cond.instanceMethod yX1_spread, Cond.selects RX1 yX1_spread yX1_spread, Cond.code yX1_spread cX1_spread 8 (some .int), Cond.methodLink RX1 174 Lib.Math.min.name, Cond.methodLink RX1 177 Lib.Math.max.name, Cond.instanceMethod yX0_sum, Cond.selects RX0 yX0_sum yX0_sum, Cond.code yX0_sum cX0_sum 3 (some .int), Cond.methodLink RX1 158 yX1_sortRun, Cond.instanceMethod yX1_sortRun, Cond.selects RX1 yX1_sortRun yX1_sortRun, Cond.code yX1_sortRun cX1_sortRun 7 none, Cond.methodLink RX1 180 yX1_comesBefore, Cond.instanceMethod yX1_comesBefore, Cond.selects RX1 yX1_comesBefore yX1_comesBefore, Cond.code yX1_comesBefore cX1_comesBefore 6 (some .boolean)]
def wsX1_build : List Cond := .code yX1_build cX1_build 3 (some .int) :: ((wsX1_build_r1 ++ (wsX1_build_r2 ++ wsX1_build_r3)) ++ wsX10 ++ wsX00)
def wsX1_hasBlock : List Cond := .code yX1_hasBlock cX1_hasBlock 2 (some .boolean) :: ([.fieldLink RX1 66 "PointTrees" "blocks" "I"] ++ wsX10)
def wsX1_isParted : List Cond := .code yX1_isParted cX1_isParted 2 (some .boolean) :: ([.fieldLink RX1 38 "PointTrees" "otherHalf" "[I"] ++ wsX10)
def wsX1_block : List Cond := .code yX1_block cX1_block 3 (some .int) :: ([.fieldLink RX1 35 "PointTrees" "blockTo" "[I", .fieldLink RX1 32 "PointTrees" "blockFrom" "[I", .fieldLink RX1 38 "PointTrees" "otherHalf" "[I", .fieldLink RX1 41 "PointTrees" "blockDepth" "[I", .methodLink RX1 101 yX1_hasBlock, .instanceMethod yX1_hasBlock, .selects RX1 yX1_hasBlock yX1_hasBlock, .initialized RX1, .code yX1_hasBlock cX1_hasBlock 2 (some .boolean), .fieldLink RX1 66 "PointTrees" "blocks" "I", .methodLink RX1 104 yX1_isParted, .instanceMethod yX1_isParted, .selects RX1 yX1_isParted yX1_isParted, .code yX1_isParted cX1_isParted 2 (some .boolean)] ++ wsX10)
def wsX1_bound : List Cond := .code yX1_bound cX1_bound 4 (some .long) :: ([.constantLong RX1 91 (-9223372036854775808), .fieldLink RX1 44 "PointTrees" "bounds" "LPointTrees$Boxes;", .methodLink RX1 101 yX1_hasBlock, .instanceMethod yX1_hasBlock, .selects RX1 yX1_hasBlock yX1_hasBlock, .initialized RX1, .code yX1_hasBlock cX1_hasBlock 2 (some .boolean), .fieldLink RX1 66 "PointTrees" "blocks" "I", .methodLink RX1 87 yX1_hasEnd, .instanceMethod yX1_hasEnd, .selects RX1 yX1_hasEnd yX1_hasEnd, .code yX1_hasEnd cX1_hasEnd 3 (some .boolean), .fieldLink RX1 9 "PointTrees" "axes" "I", .instanceMethod yX0_at, .initialized RX0, .selects RX0 yX0_at yX0_at, .code yX0_at cX0_at 4 (some .int), .fieldLink RX0 11 "PointTrees$Boxes" "ends" "[I"] ++ wsX10 ++ wsX00)
def wsX1_verdictOn : List Cond := .code yX1_verdictOn cX1_verdictOn 3 (some .int) :: ([.fieldLink RX1 47 "PointTrees" "asked" "LPointTrees$Boxes;", .fieldLink RX1 44 "PointTrees" "bounds" "LPointTrees$Boxes;", .fieldLink RX1 9 "PointTrees" "axes" "I", .static yX0_within, .initialized RX0, .code yX0_within cX0_within 6 (some .boolean), .methodLink RX0 19 yX0_at, .instanceMethod yX0_at, .selects RX0 yX0_at yX0_at, .code yX0_at cX0_at 4 (some .int), .fieldLink RX0 11 "PointTrees$Boxes" "ends" "[I", .static yX0_meet, .code yX0_meet cX0_meet 6 (some .boolean)] ++ wsX10 ++ wsX00)
def wsX1_markFound : List Cond := .code yX1_markFound cX1_markFound 2 none :: ([.fieldLink RX1 50 "PointTrees" "isFound" "[Z", .fieldLink RX1 114 "PointTrees" "foundCount" "I"] ++ wsX10)
def wsX1_findAllOf : List Cond := .code yX1_findAllOf cX1_findAllOf 3 none :: ([.fieldLink RX1 32 "PointTrees" "blockFrom" "[I", .fieldLink RX1 35 "PointTrees" "blockTo" "[I", .fieldLink RX1 15 "PointTrees" "isThere" "[Z", .fieldLink RX1 28 "PointTrees" "order" "[I", .fieldLink RX1 53 "PointTrees" "toldCounts" "[I", .methodLink RX1 195 yX1_markFound, .instanceMethod yX1_markFound, .selects RX1 yX1_markFound yX1_markFound, .initialized RX1, .code yX1_markFound cX1_markFound 2 none, .fieldLink RX1 50 "PointTrees" "isFound" "[Z", .fieldLink RX1 114 "PointTrees" "foundCount" "I"] ++ wsX10)
def wsX1_isSo : List Cond := .code yX1_isSo cX1_isSo 3 (some .boolean) :: ([.fieldLink RX1 24 "PointTrees" "things" "LPointTrees$Boxes;", .fieldLink RX1 47 "PointTrees" "asked" "LPointTrees$Boxes;", .fieldLink RX1 9 "PointTrees" "axes" "I", .static yX0_meet, .initialized RX0, .code yX0_meet cX0_meet 6 (some .boolean), .methodLink RX0 19 yX0_at, .instanceMethod yX0_at, .selects RX0 yX0_at yX0_at, .code yX0_at cX0_at 4 (some .int), .fieldLink RX0 11 "PointTrees$Boxes" "ends" "[I", .static yX0_within, .code yX0_within cX0_within 6 (some .boolean)] ++ wsX10 ++ wsX00)
def wsX1_askThing_r1 : List Cond := [Cond.fieldLink RX1 15 "PointTrees" "isThere" "[Z", Cond.methodLink RX1 198 yX1_isSo, Cond.instanceMethod yX1_isSo, Cond.selects RX1 yX1_isSo yX1_isSo, Cond.initialized RX1, Cond.code yX1_isSo cX1_isSo 3 (some .boolean), Cond.fieldLink RX1 24 "PointTrees" "things" "LPointTrees$Boxes;", Cond.fieldLink RX1 47 "PointTrees" "asked" "LPointTrees$Boxes;", Cond.fieldLink RX1 9 "PointTrees" "axes" "I", Cond.static yX0_meet, Cond.initialized RX0, Cond.code yX0_meet cX0_meet 6 (some .boolean), Cond.methodLink RX0 19 yX0_at, Cond.instanceMethod yX0_at, Cond.selects RX0 yX0_at yX0_at, Cond.code yX0_at cX0_at 4 (some .int), Cond.fieldLink RX0 11 "PointTrees$Boxes" "ends" "[I", Cond.static yX0_within, Cond.code yX0_within cX0_within 6 (some .boolean), Cond.methodLink RX1 195 yX1_markFound, Cond.instanceMethod yX1_markFound, Cond.selects RX1 yX1_markFound yX1_markFound, Cond.code yX1_markFound cX1_markFound 2 none, Cond.fieldLink RX1 50 "PointTrees" "isFound" "[Z"]
def wsX1_askThing_r2 : List Cond := [Cond.fieldLink RX1 114 "PointTrees" "foundCount" "I"]
def wsX1_askThing : List Cond := .code yX1_askThing cX1_askThing 3 none :: ((wsX1_askThing_r1 ++ wsX1_askThing_r2) ++ wsX10 ++ wsX00)
def wsX1_askThingsOf_r1 : List Cond := [Cond.fieldLink RX1 32 "PointTrees" "blockFrom" "[I", Cond.fieldLink RX1 35 "PointTrees" "blockTo" "[I", Cond.fieldLink RX1 28 "PointTrees" "order" "[I", Cond.methodLink RX1 110 yX1_askThing, Cond.instanceMethod yX1_askThing, Cond.selects RX1 yX1_askThing yX1_askThing, Cond.initialized RX1, Cond.code yX1_askThing cX1_askThing 3 none, Cond.fieldLink RX1 15 "PointTrees" "isThere" "[Z", Cond.methodLink RX1 198 yX1_isSo, Cond.instanceMethod yX1_isSo, Cond.selects RX1 yX1_isSo yX1_isSo, Cond.code yX1_isSo cX1_isSo 3 (some .boolean), Cond.fieldLink RX1 24 "PointTrees" "things" "LPointTrees$Boxes;", Cond.fieldLink RX1 47 "PointTrees" "asked" "LPointTrees$Boxes;", Cond.fieldLink RX1 9 "PointTrees" "axes" "I", Cond.static yX0_meet, Cond.initialized RX0, Cond.code yX0_meet cX0_meet 6 (some .boolean), Cond.methodLink RX0 19 yX0_at, Cond.instanceMethod yX0_at, Cond.selects RX0 yX0_at yX0_at, Cond.code yX0_at cX0_at 4 (some .int), Cond.fieldLink RX0 11 "PointTrees$Boxes" "ends" "[I"]
def wsX1_askThingsOf_r2 : List Cond := [Cond.static yX0_within, Cond.code yX0_within cX0_within 6 (some .boolean), Cond.methodLink RX1 195 yX1_markFound, Cond.instanceMethod yX1_markFound, Cond.selects RX1 yX1_markFound yX1_markFound, Cond.code yX1_markFound cX1_markFound 2 none, Cond.fieldLink RX1 50 "PointTrees" "isFound" "[Z", Cond.fieldLink RX1 114 "PointTrees" "foundCount" "I"]
def wsX1_askThingsOf : List Cond := .code yX1_askThingsOf cX1_askThingsOf 4 none :: ((wsX1_askThingsOf_r1 ++ wsX1_askThingsOf_r2) ++ wsX10 ++ wsX00)
def wsX1_askBlocks_r1 : List Cond := [Cond.fieldLink RX1 66 "PointTrees" "blocks" "I", Cond.fieldLink RX1 35 "PointTrees" "blockTo" "[I", Cond.fieldLink RX1 53 "PointTrees" "toldCounts" "[I", Cond.methodLink RX1 183 yX1_verdictOn, Cond.instanceMethod yX1_verdictOn, Cond.selects RX1 yX1_verdictOn yX1_verdictOn, Cond.initialized RX1, Cond.code yX1_verdictOn cX1_verdictOn 3 (some .int), Cond.fieldLink RX1 47 "PointTrees" "asked" "LPointTrees$Boxes;", Cond.fieldLink RX1 44 "PointTrees" "bounds" "LPointTrees$Boxes;", Cond.fieldLink RX1 9 "PointTrees" "axes" "I", Cond.static yX0_within, Cond.initialized RX0, Cond.code yX0_within cX0_within 6 (some .boolean), Cond.methodLink RX0 19 yX0_at, Cond.instanceMethod yX0_at, Cond.selects RX0 yX0_at yX0_at, Cond.code yX0_at cX0_at 4 (some .int), Cond.fieldLink RX0 11 "PointTrees$Boxes" "ends" "[I", Cond.static yX0_meet, Cond.code yX0_meet cX0_meet 6 (some .boolean), Cond.methodLink RX1 186 yX1_findAllOf, Cond.instanceMethod yX1_findAllOf, Cond.selects RX1 yX1_findAllOf yX1_findAllOf]
def wsX1_askBlocks_r2 : List Cond := [Cond.code yX1_findAllOf cX1_findAllOf 3 none, Cond.fieldLink RX1 32 "PointTrees" "blockFrom" "[I", Cond.fieldLink RX1 15 "PointTrees" "isThere" "[Z", Cond.fieldLink RX1 28 "PointTrees" "order" "[I", Cond.methodLink RX1 195 yX1_markFound, Cond.instanceMethod yX1_markFound, Cond.selects RX1 yX1_markFound yX1_markFound, Cond.code yX1_markFound cX1_markFound 2 none, Cond.fieldLink RX1 50 "PointTrees" "isFound" "[Z", Cond.fieldLink RX1 114 "PointTrees" "foundCount" "I", Cond.methodLink RX1 104 yX1_isParted, Cond.instanceMethod yX1_isParted, Cond.selects RX1 yX1_isParted yX1_isParted, Cond.code yX1_isParted cX1_isParted 2 (some .boolean), Cond.fieldLink RX1 38 "PointTrees" "otherHalf" "[I", Cond.methodLink RX1 189 yX1_askThingsOf, Cond.instanceMethod yX1_askThingsOf, Cond.selects RX1 yX1_askThingsOf yX1_askThingsOf, Cond.code yX1_askThingsOf cX1_askThingsOf 4 none, Cond.methodLink RX1 110 yX1_askThing, Cond.instanceMethod yX1_askThing, Cond.selects RX1 yX1_askThing yX1_askThing, Cond.code yX1_askThing cX1_askThing 3 none, Cond.methodLink RX1 198 yX1_isSo]
def wsX1_askBlocks_r3 : List Cond := [Cond.instanceMethod yX1_isSo, Cond.selects RX1 yX1_isSo yX1_isSo, Cond.code yX1_isSo cX1_isSo 3 (some .boolean), Cond.fieldLink RX1 24 "PointTrees" "things" "LPointTrees$Boxes;"]
def wsX1_askBlocks : List Cond := .code yX1_askBlocks cX1_askBlocks 5 none :: ((wsX1_askBlocks_r1 ++ (wsX1_askBlocks_r2 ++ wsX1_askBlocks_r3)) ++ wsX10 ++ wsX00)
def wsX1_range_r1 : List Cond := [Cond.fieldLink RX1 47 "PointTrees" "asked" "LPointTrees$Boxes;", Cond.fieldLink RX1 69 "PointTrees" "firstLoose" "I", Cond.fieldLink RX1 60 "PointTrees" "made" "I", Cond.fieldLink RX1 114 "PointTrees" "foundCount" "I", Cond.methodLink RX1 75 yX1_isBox, Cond.instanceMethod yX1_isBox, Cond.selects RX1 yX1_isBox yX1_isBox, Cond.initialized RX1, Cond.code yX1_isBox cX1_isBox 7 (some .boolean), Cond.fieldLink RX1 9 "PointTrees" "axes" "I", Cond.methodLink RX1 146 yX1_isSpan, Cond.static yX1_isSpan, Cond.code yX1_isSpan cX1_isSpan 2 (some .boolean), Cond.constant RX1 149 (-1000000), Cond.constant RX1 150 (1000000), Cond.instanceMethod yX0_put, Cond.initialized RX0, Cond.selects RX0 yX0_put yX0_put, Cond.code yX0_put cX0_put 8 none, Cond.methodLink RX0 15 yX0_putSpan, Cond.instanceMethod yX0_putSpan, Cond.selects RX0 yX0_putSpan yX0_putSpan, Cond.code yX0_putSpan cX0_putSpan 5 none, Cond.fieldLink RX0 11 "PointTrees$Boxes" "ends" "[I"]
def wsX1_range_r2 : List Cond := [Cond.methodLink RX1 72 yX1_forgetAsked, Cond.instanceMethod yX1_forgetAsked, Cond.selects RX1 yX1_forgetAsked yX1_forgetAsked, Cond.code yX1_forgetAsked cX1_forgetAsked 2 none, Cond.fieldLink RX1 50 "PointTrees" "isFound" "[Z", Cond.fieldLink RX1 53 "PointTrees" "toldCounts" "[I", Cond.methodLink RX1 107 yX1_askBlocks, Cond.instanceMethod yX1_askBlocks, Cond.selects RX1 yX1_askBlocks yX1_askBlocks, Cond.code yX1_askBlocks cX1_askBlocks 5 none, Cond.fieldLink RX1 66 "PointTrees" "blocks" "I", Cond.fieldLink RX1 35 "PointTrees" "blockTo" "[I", Cond.methodLink RX1 183 yX1_verdictOn, Cond.instanceMethod yX1_verdictOn, Cond.selects RX1 yX1_verdictOn yX1_verdictOn, Cond.code yX1_verdictOn cX1_verdictOn 3 (some .int), Cond.fieldLink RX1 44 "PointTrees" "bounds" "LPointTrees$Boxes;", Cond.static yX0_within, Cond.code yX0_within cX0_within 6 (some .boolean), Cond.methodLink RX0 19 yX0_at, Cond.instanceMethod yX0_at, Cond.selects RX0 yX0_at yX0_at, Cond.code yX0_at cX0_at 4 (some .int), Cond.static yX0_meet]
def wsX1_range_r3 : List Cond := [Cond.code yX0_meet cX0_meet 6 (some .boolean), Cond.methodLink RX1 186 yX1_findAllOf, Cond.instanceMethod yX1_findAllOf, Cond.selects RX1 yX1_findAllOf yX1_findAllOf, Cond.code yX1_findAllOf cX1_findAllOf 3 none, Cond.fieldLink RX1 32 "PointTrees" "blockFrom" "[I", Cond.fieldLink RX1 15 "PointTrees" "isThere" "[Z", Cond.fieldLink RX1 28 "PointTrees" "order" "[I", Cond.methodLink RX1 195 yX1_markFound, Cond.instanceMethod yX1_markFound, Cond.selects RX1 yX1_markFound yX1_markFound, Cond.code yX1_markFound cX1_markFound 2 none, Cond.methodLink RX1 104 yX1_isParted, Cond.instanceMethod yX1_isParted, Cond.selects RX1 yX1_isParted yX1_isParted, Cond.code yX1_isParted cX1_isParted 2 (some .boolean), Cond.fieldLink RX1 38 "PointTrees" "otherHalf" "[I", Cond.methodLink RX1 189 yX1_askThingsOf, Cond.instanceMethod yX1_askThingsOf, Cond.selects RX1 yX1_askThingsOf yX1_askThingsOf, Cond.code yX1_askThingsOf cX1_askThingsOf 4 none, Cond.methodLink RX1 110 yX1_askThing, Cond.instanceMethod yX1_askThing, Cond.selects RX1 yX1_askThing yX1_askThing]
def wsX1_range_r4 : List Cond := [Cond.code yX1_askThing cX1_askThing 3 none, Cond.methodLink RX1 198 yX1_isSo, Cond.instanceMethod yX1_isSo, Cond.selects RX1 yX1_isSo yX1_isSo, Cond.code yX1_isSo cX1_isSo 3 (some .boolean), Cond.fieldLink RX1 24 "PointTrees" "things" "LPointTrees$Boxes;"]
def wsX1_range : List Cond := .code yX1_range cX1_range 9 (some .int) :: ((wsX1_range_r1 ++ (wsX1_range_r2 ++ (wsX1_range_r3 ++ wsX1_range_r4))) ++ wsX10 ++ wsX00)
def wsX1_found : List Cond := .code yX1_found cX1_found 4 (some .int) :: ([.fieldLink RX1 114 "PointTrees" "foundCount" "I", .fieldLink RX1 50 "PointTrees" "isFound" "[Z"] ++ wsX10)
def wsX1_told : List Cond := .code yX1_told cX1_told 2 (some .int) :: ([.fieldLink RX1 53 "PointTrees" "toldCounts" "[I"] ++ wsX10)
def wsX1_isPlace : List Cond := .code yX1_isPlace cX1_isPlace 4 (some .boolean) :: ([.methodLink RX1 75 yX1_isBox, .instanceMethod yX1_isBox, .selects RX1 yX1_isBox yX1_isBox, .initialized RX1, .code yX1_isBox cX1_isBox 7 (some .boolean), .fieldLink RX1 9 "PointTrees" "axes" "I", .methodLink RX1 146 yX1_isSpan, .static yX1_isSpan, .code yX1_isSpan cX1_isSpan 2 (some .boolean), .constant RX1 149 (-1000000), .constant RX1 150 (1000000)] ++ wsX10)
def wsX1_isNearer : List Cond := .code yX1_isNearer cX1_isNearer 3 (some .boolean) :: ([.fieldLink RX1 56 "PointTrees" "squares" "[J"] ++ wsX10)
def wsX1_nearerThan : List Cond := .code yX1_nearerThan cX1_nearerThan 4 (some .int) :: ([.fieldLink RX1 60 "PointTrees" "made" "I", .fieldLink RX1 15 "PointTrees" "isThere" "[Z", .methodLink RX1 201 yX1_isNearer, .instanceMethod yX1_isNearer, .selects RX1 yX1_isNearer yX1_isNearer, .initialized RX1, .code yX1_isNearer cX1_isNearer 3 (some .boolean), .fieldLink RX1 56 "PointTrees" "squares" "[J"] ++ wsX10)
def wsX1_nearest_r1 : List Cond := [Cond.fieldLink RX1 63 "PointTrees" "present" "I", Cond.fieldLink RX1 60 "PointTrees" "made" "I", Cond.fieldLink RX1 56 "PointTrees" "squares" "[J", Cond.fieldLink RX1 24 "PointTrees" "things" "LPointTrees$Boxes;", Cond.fieldLink RX1 9 "PointTrees" "axes" "I", Cond.fieldLink RX1 15 "PointTrees" "isThere" "[Z", Cond.methodLink RX1 117 yX1_isPlace, Cond.instanceMethod yX1_isPlace, Cond.selects RX1 yX1_isPlace yX1_isPlace, Cond.initialized RX1, Cond.code yX1_isPlace cX1_isPlace 4 (some .boolean), Cond.methodLink RX1 75 yX1_isBox, Cond.instanceMethod yX1_isBox, Cond.selects RX1 yX1_isBox yX1_isBox, Cond.code yX1_isBox cX1_isBox 7 (some .boolean), Cond.methodLink RX1 146 yX1_isSpan, Cond.static yX1_isSpan, Cond.code yX1_isSpan cX1_isSpan 2 (some .boolean), Cond.constant RX1 149 (-1000000), Cond.constant RX1 150 (1000000), Cond.instanceMethod yX0_squareTo, Cond.initialized RX0, Cond.selects RX0 yX0_squareTo yX0_squareTo, Cond.code yX0_squareTo cX0_squareTo 8 (some .long)]
def wsX1_nearest_r2 : List Cond := [Cond.methodLink RX0 32 yX0_squareOnAxis, Cond.instanceMethod yX0_squareOnAxis, Cond.selects RX0 yX0_squareOnAxis yX0_squareOnAxis, Cond.code yX0_squareOnAxis cX0_squareOnAxis 10 (some .long), Cond.methodLink RX0 36 Lib.MathLoose.max_long.x, Cond.static Lib.MathLoose.max_long.x, Cond.initialized "java/lang/Math", Cond.code Lib.MathLoose.max_long.x Lib.MathLoose.max_long.code 4 (some .long), Cond.methodLink RX0 19 yX0_at, Cond.instanceMethod yX0_at, Cond.selects RX0 yX0_at yX0_at, Cond.code yX0_at cX0_at 4 (some .int), Cond.fieldLink RX0 11 "PointTrees$Boxes" "ends" "[I", Cond.methodLink RX1 125 yX1_nearerThan, Cond.instanceMethod yX1_nearerThan, Cond.selects RX1 yX1_nearerThan yX1_nearerThan, Cond.code yX1_nearerThan cX1_nearerThan 4 (some .int), Cond.methodLink RX1 201 yX1_isNearer, Cond.instanceMethod yX1_isNearer, Cond.selects RX1 yX1_isNearer yX1_isNearer, Cond.code yX1_isNearer cX1_isNearer 3 (some .boolean)]
def wsX1_nearest : List Cond := .code yX1_nearest cX1_nearest 6 (some .int) :: ((wsX1_nearest_r1 ++ wsX1_nearest_r2) ++ wsX10 ++ wsX00)
def wsX1_distance_r1 : List Cond := [Cond.constantLong RX1 91 (-9223372036854775808), Cond.fieldLink RX1 24 "PointTrees" "things" "LPointTrees$Boxes;", Cond.fieldLink RX1 9 "PointTrees" "axes" "I", Cond.methodLink RX1 83 yX1_hasThing, Cond.instanceMethod yX1_hasThing, Cond.selects RX1 yX1_hasThing yX1_hasThing, Cond.initialized RX1, Cond.code yX1_hasThing cX1_hasThing 2 (some .boolean), Cond.fieldLink RX1 60 "PointTrees" "made" "I", Cond.fieldLink RX1 15 "PointTrees" "isThere" "[Z", Cond.methodLink RX1 117 yX1_isPlace, Cond.instanceMethod yX1_isPlace, Cond.selects RX1 yX1_isPlace yX1_isPlace, Cond.code yX1_isPlace cX1_isPlace 4 (some .boolean), Cond.methodLink RX1 75 yX1_isBox, Cond.instanceMethod yX1_isBox, Cond.selects RX1 yX1_isBox yX1_isBox, Cond.code yX1_isBox cX1_isBox 7 (some .boolean), Cond.methodLink RX1 146 yX1_isSpan, Cond.static yX1_isSpan, Cond.code yX1_isSpan cX1_isSpan 2 (some .boolean), Cond.constant RX1 149 (-1000000), Cond.constant RX1 150 (1000000), Cond.instanceMethod yX0_squareTo]
def wsX1_distance_r2 : List Cond := [Cond.initialized RX0, Cond.selects RX0 yX0_squareTo yX0_squareTo, Cond.code yX0_squareTo cX0_squareTo 8 (some .long), Cond.methodLink RX0 32 yX0_squareOnAxis, Cond.instanceMethod yX0_squareOnAxis, Cond.selects RX0 yX0_squareOnAxis yX0_squareOnAxis, Cond.code yX0_squareOnAxis cX0_squareOnAxis 10 (some .long), Cond.methodLink RX0 36 Lib.MathLoose.max_long.x, Cond.static Lib.MathLoose.max_long.x, Cond.initialized "java/lang/Math", Cond.code Lib.MathLoose.max_long.x Lib.MathLoose.max_long.code 4 (some .long), Cond.methodLink RX0 19 yX0_at, Cond.instanceMethod yX0_at, Cond.selects RX0 yX0_at yX0_at, Cond.code yX0_at cX0_at 4 (some .int), Cond.fieldLink RX0 11 "PointTrees$Boxes" "ends" "[I"]
def wsX1_distance : List Cond := .code yX1_distance cX1_distance 5 (some .long) :: ((wsX1_distance_r1 ++ wsX1_distance_r2) ++ wsX10 ++ wsX00)
def wsX1_pairs : List Cond := .code yX1_pairs cX1_pairs 4 (some .int) :: ([.fieldLink RX1 60 "PointTrees" "made" "I", .fieldLink RX1 15 "PointTrees" "isThere" "[Z", .fieldLink RX1 24 "PointTrees" "things" "LPointTrees$Boxes;", .fieldLink RX1 9 "PointTrees" "axes" "I", .static yX0_meet, .initialized RX0, .code yX0_meet cX0_meet 6 (some .boolean), .methodLink RX0 19 yX0_at, .instanceMethod yX0_at, .selects RX0 yX0_at yX0_at, .code yX0_at cX0_at 4 (some .int), .fieldLink RX0 11 "PointTrees$Boxes" "ends" "[I"] ++ wsX10 ++ wsX00)
def wsJ9_floorDiv_f86c9 : List Cond := .code yJ9_floorDiv_f86c9 cJ9_floorDiv_f86c9 6 (some .long) :: ([])
def wsX1_day : List Cond := .code yX1_day cX1_day 5 (some .long) :: ([.classLink RX1 133 "java/lang/ArithmeticException", .initialized "java/lang/ArithmeticException", .constantLong RX1 91 (-9223372036854775808), .methodLink RX1 140 yJ9_floorDiv_f86c9, .static yJ9_floorDiv_f86c9, .initialized RJ9, .code yJ9_floorDiv_f86c9 cJ9_floorDiv_f86c9 6 (some .long)] ++ (vx_atS RX1 137 "java/lang/ArithmeticException" ["java/lang/RuntimeException", "java/lang/Exception"]).filter goodWord)
def wsX2_init : List Cond := .code yX2_init cX2_init 1 none :: ([.methodLink RX2 1 objectInit, .instanceMethod objectInit, .code objectInit ⟨#[0xb1]⟩ 1 none, .fieldLink RX2 7 "PointTreesModel" "axes" "I", .arrayClass .boolean, .fieldLink RX2 13 "PointTreesModel" "there" "[Z", .arrayClass .int, .fieldLink RX2 17 "PointTreesModel" "lows" "[I", .fieldLink RX2 21 "PointTreesModel" "highs" "[I", .fieldLink RX2 24 "PointTreesModel" "inTree" "[Z", .fieldLink RX2 27 "PointTreesModel" "row" "[I", .fieldLink RX2 30 "PointTreesModel" "froms" "[I", .fieldLink RX2 33 "PointTreesModel" "manys" "[I", .fieldLink RX2 36 "PointTreesModel" "others" "[I", .fieldLink RX2 39 "PointTreesModel" "depths" "[I", .fieldLink RX2 42 "PointTreesModel" "leasts" "[I", .fieldLink RX2 45 "PointTreesModel" "greatests" "[I", .fieldLink RX2 48 "PointTreesModel" "waitFrom" "[I", .fieldLink RX2 51 "PointTreesModel" "waitMany" "[I", .fieldLink RX2 54 "PointTreesModel" "waitDepth" "[I", .fieldLink RX2 57 "PointTreesModel" "waitOf" "[I", .fieldLink RX2 60 "PointTreesModel" "low" "[I", .fieldLink RX2 63 "PointTreesModel" "high" "[I", .fieldLink RX2 66 "PointTreesModel" "isFound" "[Z"] ++ wsX20)
def wsX2_thrown : List Cond := .code yX2_thrown cX2_thrown 1 (some .int) :: ([.fieldLink RX2 69 "PointTreesModel" "thrown" "I"] ++ wsX20)
def wsX2_isThing : List Cond := .code yX2_isThing cX2_isThing 2 (some .boolean) :: ([.fieldLink RX2 72 "PointTreesModel" "made" "I", .fieldLink RX2 13 "PointTreesModel" "there" "[Z"] ++ wsX20)
def wsX2_isPlace : List Cond := .code yX2_isPlace cX2_isPlace 1 (some .boolean) :: ([.constant RX2 75 (-1000000), .constant RX2 76 (1000000)])
def wsX2_dimensions : List Cond := .code yX2_dimensions cX2_dimensions 4 (some .int) :: ([.fieldLink RX2 69 "PointTreesModel" "thrown" "I", .fieldLink RX2 7 "PointTreesModel" "axes" "I", .fieldLink RX2 72 "PointTreesModel" "made" "I", .fieldLink RX2 77 "PointTreesModel" "blocks" "I", .fieldLink RX2 80 "PointTreesModel" "foundMany" "I", .fieldLink RX2 83 "PointTreesModel" "opened" "I", .fieldLink RX2 86 "PointTreesModel" "settled" "I", .fieldLink RX2 89 "PointTreesModel" "foundThere" "I", .fieldLink RX2 66 "PointTreesModel" "isFound" "[Z", .fieldLink RX2 24 "PointTreesModel" "inTree" "[Z", .fieldLink RX2 13 "PointTreesModel" "there" "[Z"] ++ wsX20)
def wsX2_tells : List Cond := .code yX2_tells cX2_tells 11 (some .boolean) :: ([.fieldLink RX2 7 "PointTreesModel" "axes" "I", .fieldLink RX2 60 "PointTreesModel" "low" "[I", .fieldLink RX2 63 "PointTreesModel" "high" "[I", .methodLink RX2 92 yX2_isPlace, .static yX2_isPlace, .initialized RX2, .code yX2_isPlace cX2_isPlace 1 (some .boolean), .constant RX2 75 (-1000000), .constant RX2 76 (1000000)] ++ wsX20)
def wsX2_thing : List Cond := .code yX2_thing cX2_thing 8 (some .int) :: ([.fieldLink RX2 69 "PointTreesModel" "thrown" "I", .fieldLink RX2 72 "PointTreesModel" "made" "I", .fieldLink RX2 7 "PointTreesModel" "axes" "I", .fieldLink RX2 17 "PointTreesModel" "lows" "[I", .fieldLink RX2 60 "PointTreesModel" "low" "[I", .fieldLink RX2 21 "PointTreesModel" "highs" "[I", .fieldLink RX2 63 "PointTreesModel" "high" "[I", .fieldLink RX2 13 "PointTreesModel" "there" "[Z", .fieldLink RX2 24 "PointTreesModel" "inTree" "[Z", .methodLink RX2 96 yX2_tells, .instanceMethod yX2_tells, .selects RX2 yX2_tells yX2_tells, .initialized RX2, .code yX2_tells cX2_tells 11 (some .boolean), .methodLink RX2 92 yX2_isPlace, .static yX2_isPlace, .code yX2_isPlace cX2_isPlace 1 (some .boolean), .constant RX2 75 (-1000000), .constant RX2 76 (1000000)] ++ wsX20)
def wsX2_count : List Cond := .code yX2_count cX2_count 3 (some .int) :: ([.fieldLink RX2 69 "PointTreesModel" "thrown" "I", .fieldLink RX2 72 "PointTreesModel" "made" "I", .fieldLink RX2 13 "PointTreesModel" "there" "[Z"] ++ wsX20)
def wsX2_drop : List Cond := .code yX2_drop cX2_drop 2 (some .int) :: ([.fieldLink RX2 69 "PointTreesModel" "thrown" "I", .fieldLink RX2 13 "PointTreesModel" "there" "[Z", .methodLink RX2 100 yX2_isThing, .instanceMethod yX2_isThing, .selects RX2 yX2_isThing yX2_isThing, .initialized RX2, .code yX2_isThing cX2_isThing 2 (some .boolean), .fieldLink RX2 72 "PointTreesModel" "made" "I", .methodLink RX2 103 yX2_count, .instanceMethod yX2_count, .selects RX2 yX2_count yX2_count, .code yX2_count cX2_count 3 (some .int)] ++ wsX20)
def wsX2_end : List Cond := .code yX2_end cX2_end 4 (some .long) :: ([.fieldLink RX2 69 "PointTreesModel" "thrown" "I", .fieldLink RX2 7 "PointTreesModel" "axes" "I", .constantLong RX2 107 (-9223372036854775808), .fieldLink RX2 17 "PointTreesModel" "lows" "[I", .fieldLink RX2 21 "PointTreesModel" "highs" "[I", .methodLink RX2 100 yX2_isThing, .instanceMethod yX2_isThing, .selects RX2 yX2_isThing yX2_isThing, .initialized RX2, .code yX2_isThing cX2_isThing 2 (some .boolean), .fieldLink RX2 72 "PointTreesModel" "made" "I", .fieldLink RX2 13 "PointTreesModel" "there" "[Z"] ++ wsX20)
def wsX2_sum : List Cond := .code yX2_sum cX2_sum 3 (some .int) :: ([.fieldLink RX2 17 "PointTreesModel" "lows" "[I", .fieldLink RX2 21 "PointTreesModel" "highs" "[I"] ++ wsX20)
def wsX2_await : List Cond := .code yX2_await cX2_await 5 none :: ([.fieldLink RX2 48 "PointTreesModel" "waitFrom" "[I", .fieldLink RX2 109 "PointTreesModel" "waiting" "I", .fieldLink RX2 51 "PointTreesModel" "waitMany" "[I", .fieldLink RX2 54 "PointTreesModel" "waitDepth" "[I", .fieldLink RX2 57 "PointTreesModel" "waitOf" "[I"] ++ wsX20)
def wsX2_look : List Cond := .code yX2_look cX2_look 11 (some .int) :: ([.fieldLink RX2 7 "PointTreesModel" "axes" "I", .constant RX2 76 (1000000), .constant RX2 75 (-1000000), .constant RX2 112 (2000000), .constant RX2 113 (-2000000), .fieldLink RX2 30 "PointTreesModel" "froms" "[I", .fieldLink RX2 33 "PointTreesModel" "manys" "[I", .fieldLink RX2 27 "PointTreesModel" "row" "[I", .fieldLink RX2 17 "PointTreesModel" "lows" "[I", .fieldLink RX2 21 "PointTreesModel" "highs" "[I", .fieldLink RX2 42 "PointTreesModel" "leasts" "[I", .fieldLink RX2 45 "PointTreesModel" "greatests" "[I", .methodLink RX2 114 yX2_sum, .instanceMethod yX2_sum, .selects RX2 yX2_sum yX2_sum, .initialized RX2, .code yX2_sum cX2_sum 3 (some .int)] ++ wsX20)
def wsX2_sort : List Cond := .code yX2_sort cX2_sort 7 none :: ([.fieldLink RX2 27 "PointTreesModel" "row" "[I", .methodLink RX2 114 yX2_sum, .instanceMethod yX2_sum, .selects RX2 yX2_sum yX2_sum, .initialized RX2, .code yX2_sum cX2_sum 3 (some .int), .fieldLink RX2 17 "PointTreesModel" "lows" "[I", .fieldLink RX2 21 "PointTreesModel" "highs" "[I"] ++ wsX20)
def wsX2_build_r1 : List Cond := [Cond.fieldLink RX2 69 "PointTreesModel" "thrown" "I", Cond.fieldLink RX2 72 "PointTreesModel" "made" "I", Cond.fieldLink RX2 24 "PointTreesModel" "inTree" "[Z", Cond.fieldLink RX2 13 "PointTreesModel" "there" "[Z", Cond.fieldLink RX2 27 "PointTreesModel" "row" "[I", Cond.fieldLink RX2 77 "PointTreesModel" "blocks" "I", Cond.fieldLink RX2 109 "PointTreesModel" "waiting" "I", Cond.fieldLink RX2 30 "PointTreesModel" "froms" "[I", Cond.fieldLink RX2 48 "PointTreesModel" "waitFrom" "[I", Cond.fieldLink RX2 33 "PointTreesModel" "manys" "[I", Cond.fieldLink RX2 51 "PointTreesModel" "waitMany" "[I", Cond.fieldLink RX2 39 "PointTreesModel" "depths" "[I", Cond.fieldLink RX2 54 "PointTreesModel" "waitDepth" "[I", Cond.fieldLink RX2 36 "PointTreesModel" "others" "[I", Cond.fieldLink RX2 57 "PointTreesModel" "waitOf" "[I", Cond.methodLink RX2 118 yX2_await, Cond.instanceMethod yX2_await, Cond.selects RX2 yX2_await yX2_await, Cond.initialized RX2, Cond.code yX2_await cX2_await 5 none, Cond.methodLink RX2 122 yX2_look, Cond.instanceMethod yX2_look, Cond.selects RX2 yX2_look yX2_look, Cond.code yX2_look cX2_look 11 (some .int)]
def wsX2_build_r2 : List Cond := [Cond.fieldLink RX2 7 "PointTreesModel" "axes" "I", Cond.constant RX2 76 (1000000), Cond.constant RX2 75 (-1000000), Cond.constant RX2 112 (2000000), Cond.constant RX2 113 (-2000000), Cond.fieldLink RX2 17 "PointTreesModel" "lows" "[I", Cond.fieldLink RX2 21 "PointTreesModel" "highs" "[I", Cond.fieldLink RX2 42 "PointTreesModel" "leasts" "[I", Cond.fieldLink RX2 45 "PointTreesModel" "greatests" "[I", Cond.methodLink RX2 114 yX2_sum, Cond.instanceMethod yX2_sum, Cond.selects RX2 yX2_sum yX2_sum, Cond.code yX2_sum cX2_sum 3 (some .int), Cond.methodLink RX2 126 yX2_sort, Cond.instanceMethod yX2_sort, Cond.selects RX2 yX2_sort yX2_sort, Cond.code yX2_sort cX2_sort 7 none]
def wsX2_build : List Cond := .code yX2_build cX2_build 5 (some .int) :: ((wsX2_build_r1 ++ wsX2_build_r2) ++ wsX20)
def wsX2_isBlock : List Cond := .code yX2_isBlock cX2_isBlock 2 (some .boolean) :: ([.fieldLink RX2 77 "PointTreesModel" "blocks" "I"] ++ wsX20)
def wsX2_block : List Cond := .code yX2_block cX2_block 3 (some .int) :: ([.fieldLink RX2 69 "PointTreesModel" "thrown" "I", .fieldLink RX2 33 "PointTreesModel" "manys" "[I", .fieldLink RX2 36 "PointTreesModel" "others" "[I", .fieldLink RX2 39 "PointTreesModel" "depths" "[I", .methodLink RX2 130 yX2_isBlock, .instanceMethod yX2_isBlock, .selects RX2 yX2_isBlock yX2_isBlock, .initialized RX2, .code yX2_isBlock cX2_isBlock 2 (some .boolean), .fieldLink RX2 77 "PointTreesModel" "blocks" "I"] ++ wsX20)
def wsX2_bound : List Cond := .code yX2_bound cX2_bound 4 (some .long) :: ([.fieldLink RX2 69 "PointTreesModel" "thrown" "I", .fieldLink RX2 7 "PointTreesModel" "axes" "I", .constantLong RX2 107 (-9223372036854775808), .fieldLink RX2 42 "PointTreesModel" "leasts" "[I", .fieldLink RX2 45 "PointTreesModel" "greatests" "[I", .methodLink RX2 130 yX2_isBlock, .instanceMethod yX2_isBlock, .selects RX2 yX2_isBlock yX2_isBlock, .initialized RX2, .code yX2_isBlock cX2_isBlock 2 (some .boolean), .fieldLink RX2 77 "PointTreesModel" "blocks" "I"] ++ wsX20)
def wsX2_isSo : List Cond := .code yX2_isSo cX2_isSo 9 (some .boolean) :: ([.fieldLink RX2 7 "PointTreesModel" "axes" "I", .fieldLink RX2 63 "PointTreesModel" "high" "[I", .fieldLink RX2 60 "PointTreesModel" "low" "[I"] ++ wsX20)
def wsX2_tellsOf : List Cond := .code yX2_tellsOf cX2_tellsOf 5 (some .int) :: ([.fieldLink RX2 42 "PointTreesModel" "leasts" "[I", .fieldLink RX2 45 "PointTreesModel" "greatests" "[I", .methodLink RX2 133 yX2_isSo, .instanceMethod yX2_isSo, .selects RX2 yX2_isSo yX2_isSo, .initialized RX2, .code yX2_isSo cX2_isSo 9 (some .boolean), .fieldLink RX2 7 "PointTreesModel" "axes" "I", .fieldLink RX2 63 "PointTreesModel" "high" "[I", .fieldLink RX2 60 "PointTreesModel" "low" "[I"] ++ wsX20)
def wsX2_find : List Cond := .code yX2_find cX2_find 2 none :: ([.fieldLink RX2 66 "PointTreesModel" "isFound" "[Z", .fieldLink RX2 80 "PointTreesModel" "foundMany" "I"] ++ wsX20)
def wsX2_range_r1 : List Cond := [Cond.fieldLink RX2 69 "PointTreesModel" "thrown" "I", Cond.fieldLink RX2 80 "PointTreesModel" "foundMany" "I", Cond.fieldLink RX2 83 "PointTreesModel" "opened" "I", Cond.fieldLink RX2 86 "PointTreesModel" "settled" "I", Cond.fieldLink RX2 89 "PointTreesModel" "foundThere" "I", Cond.fieldLink RX2 66 "PointTreesModel" "isFound" "[Z", Cond.fieldLink RX2 77 "PointTreesModel" "blocks" "I", Cond.fieldLink RX2 39 "PointTreesModel" "depths" "[I", Cond.fieldLink RX2 30 "PointTreesModel" "froms" "[I", Cond.fieldLink RX2 33 "PointTreesModel" "manys" "[I", Cond.fieldLink RX2 27 "PointTreesModel" "row" "[I", Cond.fieldLink RX2 13 "PointTreesModel" "there" "[Z", Cond.fieldLink RX2 17 "PointTreesModel" "lows" "[I", Cond.fieldLink RX2 21 "PointTreesModel" "highs" "[I", Cond.fieldLink RX2 72 "PointTreesModel" "made" "I", Cond.fieldLink RX2 24 "PointTreesModel" "inTree" "[Z", Cond.methodLink RX2 96 yX2_tells, Cond.instanceMethod yX2_tells, Cond.selects RX2 yX2_tells yX2_tells, Cond.initialized RX2, Cond.code yX2_tells cX2_tells 11 (some .boolean), Cond.fieldLink RX2 7 "PointTreesModel" "axes" "I", Cond.fieldLink RX2 60 "PointTreesModel" "low" "[I", Cond.fieldLink RX2 63 "PointTreesModel" "high" "[I"]
def wsX2_range_r2 : List Cond := [Cond.methodLink RX2 92 yX2_isPlace, Cond.static yX2_isPlace, Cond.code yX2_isPlace cX2_isPlace 1 (some .boolean), Cond.constant RX2 75 (-1000000), Cond.constant RX2 76 (1000000), Cond.methodLink RX2 137 yX2_tellsOf, Cond.instanceMethod yX2_tellsOf, Cond.selects RX2 yX2_tellsOf yX2_tellsOf, Cond.code yX2_tellsOf cX2_tellsOf 5 (some .int), Cond.fieldLink RX2 42 "PointTreesModel" "leasts" "[I", Cond.fieldLink RX2 45 "PointTreesModel" "greatests" "[I", Cond.methodLink RX2 133 yX2_isSo, Cond.instanceMethod yX2_isSo, Cond.selects RX2 yX2_isSo yX2_isSo, Cond.code yX2_isSo cX2_isSo 9 (some .boolean), Cond.methodLink RX2 140 yX2_find, Cond.instanceMethod yX2_find, Cond.selects RX2 yX2_find yX2_find, Cond.code yX2_find cX2_find 2 none]
def wsX2_range : List Cond := .code yX2_range cX2_range 13 (some .int) :: ((wsX2_range_r1 ++ wsX2_range_r2) ++ wsX20)
def wsX2_found : List Cond := .code yX2_found cX2_found 4 (some .int) :: ([.fieldLink RX2 69 "PointTreesModel" "thrown" "I", .fieldLink RX2 66 "PointTreesModel" "isFound" "[Z"] ++ wsX20)
def wsX2_told : List Cond := .code yX2_told cX2_told 2 (some .int) :: ([.fieldLink RX2 69 "PointTreesModel" "thrown" "I", .fieldLink RX2 83 "PointTreesModel" "opened" "I", .fieldLink RX2 86 "PointTreesModel" "settled" "I", .fieldLink RX2 89 "PointTreesModel" "foundThere" "I"] ++ wsX20)
def wsX2_isAt : List Cond := .code yX2_isAt cX2_isAt 4 (some .boolean) :: ([.fieldLink RX2 7 "PointTreesModel" "axes" "I", .methodLink RX2 92 yX2_isPlace, .static yX2_isPlace, .initialized RX2, .code yX2_isPlace cX2_isPlace 1 (some .boolean), .constant RX2 75 (-1000000), .constant RX2 76 (1000000)] ++ wsX20)
def wsX2_square : List Cond := .code yX2_square cX2_square 12 (some .long) :: ([.fieldLink RX2 7 "PointTreesModel" "axes" "I", .fieldLink RX2 17 "PointTreesModel" "lows" "[I", .fieldLink RX2 21 "PointTreesModel" "highs" "[I"] ++ wsX20)
def wsX2_nearest : List Cond := .code yX2_nearest cX2_nearest 9 (some .int) :: ([.fieldLink RX2 69 "PointTreesModel" "thrown" "I", .fieldLink RX2 72 "PointTreesModel" "made" "I", .fieldLink RX2 13 "PointTreesModel" "there" "[Z", .methodLink RX2 103 yX2_count, .instanceMethod yX2_count, .selects RX2 yX2_count yX2_count, .initialized RX2, .code yX2_count cX2_count 3 (some .int), .methodLink RX2 144 yX2_isAt, .instanceMethod yX2_isAt, .selects RX2 yX2_isAt yX2_isAt, .code yX2_isAt cX2_isAt 4 (some .boolean), .fieldLink RX2 7 "PointTreesModel" "axes" "I", .methodLink RX2 92 yX2_isPlace, .static yX2_isPlace, .code yX2_isPlace cX2_isPlace 1 (some .boolean), .constant RX2 75 (-1000000), .constant RX2 76 (1000000), .methodLink RX2 148 yX2_square, .instanceMethod yX2_square, .selects RX2 yX2_square yX2_square, .code yX2_square cX2_square 12 (some .long), .fieldLink RX2 17 "PointTreesModel" "lows" "[I", .fieldLink RX2 21 "PointTreesModel" "highs" "[I"] ++ wsX20)
def wsX2_distance_r1 : List Cond := [Cond.fieldLink RX2 69 "PointTreesModel" "thrown" "I", Cond.constantLong RX2 107 (-9223372036854775808), Cond.methodLink RX2 100 yX2_isThing, Cond.instanceMethod yX2_isThing, Cond.selects RX2 yX2_isThing yX2_isThing, Cond.initialized RX2, Cond.code yX2_isThing cX2_isThing 2 (some .boolean), Cond.fieldLink RX2 72 "PointTreesModel" "made" "I", Cond.fieldLink RX2 13 "PointTreesModel" "there" "[Z", Cond.methodLink RX2 144 yX2_isAt, Cond.instanceMethod yX2_isAt, Cond.selects RX2 yX2_isAt yX2_isAt, Cond.code yX2_isAt cX2_isAt 4 (some .boolean), Cond.fieldLink RX2 7 "PointTreesModel" "axes" "I", Cond.methodLink RX2 92 yX2_isPlace, Cond.static yX2_isPlace, Cond.code yX2_isPlace cX2_isPlace 1 (some .boolean), Cond.constant RX2 75 (-1000000), Cond.constant RX2 76 (1000000), Cond.methodLink RX2 148 yX2_square, Cond.instanceMethod yX2_square, Cond.selects RX2 yX2_square yX2_square, Cond.code yX2_square cX2_square 12 (some .long), Cond.fieldLink RX2 17 "PointTreesModel" "lows" "[I"]
def wsX2_distance_r2 : List Cond := [Cond.fieldLink RX2 21 "PointTreesModel" "highs" "[I"]
def wsX2_distance : List Cond := .code yX2_distance cX2_distance 5 (some .long) :: ((wsX2_distance_r1 ++ wsX2_distance_r2) ++ wsX20)
def wsX2_pairs : List Cond := .code yX2_pairs cX2_pairs 6 (some .int) :: ([.fieldLink RX2 69 "PointTreesModel" "thrown" "I", .fieldLink RX2 72 "PointTreesModel" "made" "I", .fieldLink RX2 13 "PointTreesModel" "there" "[Z", .fieldLink RX2 7 "PointTreesModel" "axes" "I", .fieldLink RX2 17 "PointTreesModel" "lows" "[I", .fieldLink RX2 21 "PointTreesModel" "highs" "[I"] ++ wsX20)
def wsX2_day : List Cond := .code yX2_day cX2_day 7 (some .long) :: ([.fieldLink RX2 69 "PointTreesModel" "thrown" "I", .constantLong RX2 107 (-9223372036854775808)] ++ wsX20)
def wsJ9_max_7cf53 : List Cond := .code yJ9_max_7cf53 cJ9_max_7cf53 2 (some .int) :: ([])
def wsJ9_max_f86c9 : List Cond := .code yJ9_max_f86c9 cJ9_max_f86c9 4 (some .long) :: ([])
def wsJ9_min_7cf53 : List Cond := .code yJ9_min_7cf53 cJ9_min_7cf53 2 (some .int) :: ([])
theorem dX0_init_0 : decode cX0_init 0 = .ok (.aload_n 0, 1) := by decide +kernel
theorem dX0_init_1 : decode cX0_init 1 = .ok (.invokespecial 5, 3) := by decide +kernel
theorem dX0_init_4 : decode cX0_init 4 = .ok (.aload_n 0, 1) := by decide +kernel
theorem dX0_init_5 : decode cX0_init 5 = .ok (.iload_n 1, 1) := by decide +kernel
theorem dX0_init_6 : decode cX0_init 6 = .ok (.ifCond .le 10, 3) := by decide +kernel
theorem dX0_init_9 : decode cX0_init 9 = .ok (.iload_n 1, 1) := by decide +kernel
theorem dX0_init_10 : decode cX0_init 10 = .ok (.bipush 6, 2) := by decide +kernel
theorem dX0_init_12 : decode cX0_init 12 = .ok (.imul, 1) := by decide +kernel
theorem dX0_init_13 : decode cX0_init 13 = .ok (.goto 4, 3) := by decide +kernel
theorem dX0_init_16 : decode cX0_init 16 = .ok (.iconst 0, 1) := by decide +kernel
theorem dX0_init_17 : decode cX0_init 17 = .ok (.newarray .int, 2) := by decide +kernel
theorem dX0_init_19 : decode cX0_init 19 = .ok (.putfield 11, 3) := by decide +kernel
theorem dX0_init_22 : decode cX0_init 22 = .ok (.return_, 1) := by decide +kernel
theorem dX0_at_0 : decode cX0_at 0 = .ok (.aload_n 0, 1) := by decide +kernel
theorem dX0_at_1 : decode cX0_at 1 = .ok (.getfield 11, 3) := by decide +kernel
theorem dX0_at_4 : decode cX0_at 4 = .ok (.iload_n 1, 1) := by decide +kernel
theorem dX0_at_5 : decode cX0_at 5 = .ok (.bipush 6, 2) := by decide +kernel
theorem dX0_at_7 : decode cX0_at 7 = .ok (.imul, 1) := by decide +kernel
theorem dX0_at_8 : decode cX0_at 8 = .ok (.iload_n 2, 1) := by decide +kernel
theorem dX0_at_9 : decode cX0_at 9 = .ok (.iconst 2, 1) := by decide +kernel
theorem dX0_at_10 : decode cX0_at 10 = .ok (.imul, 1) := by decide +kernel
theorem dX0_at_11 : decode cX0_at 11 = .ok (.iadd, 1) := by decide +kernel
theorem dX0_at_12 : decode cX0_at 12 = .ok (.iload_n 3, 1) := by decide +kernel
theorem dX0_at_13 : decode cX0_at 13 = .ok (.iadd, 1) := by decide +kernel
theorem dX0_at_14 : decode cX0_at 14 = .ok (.iaload, 1) := by decide +kernel
theorem dX0_at_15 : decode cX0_at 15 = .ok (.ireturn, 1) := by decide +kernel
set_option maxRecDepth 20000 in
theorem ggX0_put_X0_putSpan : GoodIn wsX0_put wsX0_putSpan := goodIn_r _ [5, 6, 7] (by decide +kernel) (by decide +kernel)
set_option maxRecDepth 20000 in
theorem gX0_put_X0_putSpan : GoodIn wsX0_put (wsV RX0 15 RX0 yX0_putSpan wsX0_putSpan) := goodIn_app (goodIn_of _ (by decide +kernel)) ggX0_put_X0_putSpan
theorem dX0_put_0 : decode cX0_put 0 = .ok (.aload_n 0, 1) := by decide +kernel
theorem dX0_put_1 : decode cX0_put 1 = .ok (.iload_n 1, 1) := by decide +kernel
theorem dX0_put_2 : decode cX0_put 2 = .ok (.iconst 0, 1) := by decide +kernel
theorem dX0_put_3 : decode cX0_put 3 = .ok (.iload_n 2, 1) := by decide +kernel
theorem dX0_put_4 : decode cX0_put 4 = .ok (.iload_n 3, 1) := by decide +kernel
theorem dX0_put_5 : decode cX0_put 5 = .ok (.invokevirtual 15, 3) := by decide +kernel
theorem dX0_put_8 : decode cX0_put 8 = .ok (.aload_n 0, 1) := by decide +kernel
theorem dX0_put_9 : decode cX0_put 9 = .ok (.iload_n 1, 1) := by decide +kernel
theorem dX0_put_10 : decode cX0_put 10 = .ok (.iconst 1, 1) := by decide +kernel
theorem dX0_put_11 : decode cX0_put 11 = .ok (.iload 4, 2) := by decide +kernel
theorem dX0_put_13 : decode cX0_put 13 = .ok (.iload 5, 2) := by decide +kernel
theorem dX0_put_15 : decode cX0_put 15 = .ok (.invokevirtual 15, 3) := by decide +kernel
theorem dX0_put_18 : decode cX0_put 18 = .ok (.aload_n 0, 1) := by decide +kernel
theorem dX0_put_19 : decode cX0_put 19 = .ok (.iload_n 1, 1) := by decide +kernel
theorem dX0_put_20 : decode cX0_put 20 = .ok (.iconst 2, 1) := by decide +kernel
theorem dX0_put_21 : decode cX0_put 21 = .ok (.iload 6, 2) := by decide +kernel
theorem dX0_put_23 : decode cX0_put 23 = .ok (.iload 7, 2) := by decide +kernel
theorem dX0_put_25 : decode cX0_put 25 = .ok (.invokevirtual 15, 3) := by decide +kernel
theorem dX0_put_28 : decode cX0_put 28 = .ok (.return_, 1) := by decide +kernel
theorem dX0_putSpan_0 : decode cX0_putSpan 0 = .ok (.aload_n 0, 1) := by decide +kernel
theorem dX0_putSpan_1 : decode cX0_putSpan 1 = .ok (.getfield 11, 3) := by decide +kernel
theorem dX0_putSpan_4 : decode cX0_putSpan 4 = .ok (.iload_n 1, 1) := by decide +kernel
theorem dX0_putSpan_5 : decode cX0_putSpan 5 = .ok (.bipush 6, 2) := by decide +kernel
theorem dX0_putSpan_7 : decode cX0_putSpan 7 = .ok (.imul, 1) := by decide +kernel
theorem dX0_putSpan_8 : decode cX0_putSpan 8 = .ok (.iload_n 2, 1) := by decide +kernel
theorem dX0_putSpan_9 : decode cX0_putSpan 9 = .ok (.iconst 2, 1) := by decide +kernel
theorem dX0_putSpan_10 : decode cX0_putSpan 10 = .ok (.imul, 1) := by decide +kernel
theorem dX0_putSpan_11 : decode cX0_putSpan 11 = .ok (.iadd, 1) := by decide +kernel
theorem dX0_putSpan_12 : decode cX0_putSpan 12 = .ok (.iconst 0, 1) := by decide +kernel
theorem dX0_putSpan_13 : decode cX0_putSpan 13 = .ok (.iadd, 1) := by decide +kernel
theorem dX0_putSpan_14 : decode cX0_putSpan 14 = .ok (.iload_n 3, 1) := by decide +kernel
theorem dX0_putSpan_15 : decode cX0_putSpan 15 = .ok (.iastore, 1) := by decide +kernel
theorem dX0_putSpan_16 : decode cX0_putSpan 16 = .ok (.aload_n 0, 1) := by decide +kernel
theorem dX0_putSpan_17 : decode cX0_putSpan 17 = .ok (.getfield 11, 3) := by decide +kernel
theorem dX0_putSpan_20 : decode cX0_putSpan 20 = .ok (.iload_n 1, 1) := by decide +kernel
theorem dX0_putSpan_21 : decode cX0_putSpan 21 = .ok (.bipush 6, 2) := by decide +kernel
theorem dX0_putSpan_23 : decode cX0_putSpan 23 = .ok (.imul, 1) := by decide +kernel
theorem dX0_putSpan_24 : decode cX0_putSpan 24 = .ok (.iload_n 2, 1) := by decide +kernel
theorem dX0_putSpan_25 : decode cX0_putSpan 25 = .ok (.iconst 2, 1) := by decide +kernel
theorem dX0_putSpan_26 : decode cX0_putSpan 26 = .ok (.imul, 1) := by decide +kernel
theorem dX0_putSpan_27 : decode cX0_putSpan 27 = .ok (.iadd, 1) := by decide +kernel
theorem dX0_putSpan_28 : decode cX0_putSpan 28 = .ok (.iconst 1, 1) := by decide +kernel
theorem dX0_putSpan_29 : decode cX0_putSpan 29 = .ok (.iadd, 1) := by decide +kernel
theorem dX0_putSpan_30 : decode cX0_putSpan 30 = .ok (.iload 4, 2) := by decide +kernel
theorem dX0_putSpan_32 : decode cX0_putSpan 32 = .ok (.iastore, 1) := by decide +kernel
theorem dX0_putSpan_33 : decode cX0_putSpan 33 = .ok (.return_, 1) := by decide +kernel
set_option maxRecDepth 20000 in
theorem ggX0_copyFrom_X0_at : GoodIn wsX0_copyFrom wsX0_at := goodIn_r _ [5, 6, 11] (by decide +kernel) (by decide +kernel)
set_option maxRecDepth 20000 in
theorem gX0_copyFrom_X0_at : GoodIn wsX0_copyFrom (wsV RX0 19 RX0 yX0_at wsX0_at) := goodIn_app (goodIn_of _ (by decide +kernel)) ggX0_copyFrom_X0_at
set_option maxRecDepth 20000 in
theorem ggX0_copyFrom_X0_putSpan : GoodIn wsX0_copyFrom wsX0_putSpan := goodIn_r _ [10, 6, 11] (by decide +kernel) (by decide +kernel)
set_option maxRecDepth 20000 in
theorem gX0_copyFrom_X0_putSpan : GoodIn wsX0_copyFrom (wsV RX0 15 RX0 yX0_putSpan wsX0_putSpan) := goodIn_app (goodIn_of _ (by decide +kernel)) ggX0_copyFrom_X0_putSpan
theorem dX0_copyFrom_0 : decode cX0_copyFrom 0 = .ok (.iconst 0, 1) := by decide +kernel
theorem dX0_copyFrom_1 : decode cX0_copyFrom 1 = .ok (.istore 4, 2) := by decide +kernel
theorem dX0_copyFrom_3 : decode cX0_copyFrom 3 = .ok (.iload 4, 2) := by decide +kernel
theorem dX0_copyFrom_5 : decode cX0_copyFrom 5 = .ok (.iconst 3, 1) := by decide +kernel
theorem dX0_copyFrom_6 : decode cX0_copyFrom 6 = .ok (.if_icmp .ge 32, 3) := by decide +kernel
theorem dX0_copyFrom_9 : decode cX0_copyFrom 9 = .ok (.aload_n 0, 1) := by decide +kernel
theorem dX0_copyFrom_10 : decode cX0_copyFrom 10 = .ok (.iload_n 1, 1) := by decide +kernel
theorem dX0_copyFrom_11 : decode cX0_copyFrom 11 = .ok (.iload 4, 2) := by decide +kernel
theorem dX0_copyFrom_13 : decode cX0_copyFrom 13 = .ok (.aload_n 2, 1) := by decide +kernel
theorem dX0_copyFrom_14 : decode cX0_copyFrom 14 = .ok (.iload_n 3, 1) := by decide +kernel
theorem dX0_copyFrom_15 : decode cX0_copyFrom 15 = .ok (.iload 4, 2) := by decide +kernel
theorem dX0_copyFrom_17 : decode cX0_copyFrom 17 = .ok (.iconst 0, 1) := by decide +kernel
theorem dX0_copyFrom_18 : decode cX0_copyFrom 18 = .ok (.invokevirtual 19, 3) := by decide +kernel
theorem dX0_copyFrom_21 : decode cX0_copyFrom 21 = .ok (.aload_n 2, 1) := by decide +kernel
theorem dX0_copyFrom_22 : decode cX0_copyFrom 22 = .ok (.iload_n 3, 1) := by decide +kernel
theorem dX0_copyFrom_23 : decode cX0_copyFrom 23 = .ok (.iload 4, 2) := by decide +kernel
theorem dX0_copyFrom_25 : decode cX0_copyFrom 25 = .ok (.iconst 1, 1) := by decide +kernel
theorem dX0_copyFrom_26 : decode cX0_copyFrom 26 = .ok (.invokevirtual 19, 3) := by decide +kernel
theorem dX0_copyFrom_29 : decode cX0_copyFrom 29 = .ok (.invokevirtual 15, 3) := by decide +kernel
theorem dX0_copyFrom_32 : decode cX0_copyFrom 32 = .ok (.iinc 4 1, 3) := by decide +kernel
theorem dX0_copyFrom_35 : decode cX0_copyFrom 35 = .ok (.goto (-32), 3) := by decide +kernel
theorem dX0_copyFrom_38 : decode cX0_copyFrom 38 = .ok (.return_, 1) := by decide +kernel
set_option maxRecDepth 20000 in
theorem ggX0_widen_X0_at : GoodIn wsX0_widen wsX0_at := goodIn_r _ [12, 13, 18] (by decide +kernel) (by decide +kernel)
set_option maxRecDepth 20000 in
theorem gX0_widen_X0_at : GoodIn wsX0_widen (wsV RX0 19 RX0 yX0_at wsX0_at) := goodIn_app (goodIn_of _ (by decide +kernel)) ggX0_widen_X0_at
set_option maxRecDepth 20000 in
theorem ggX0_widen_X0_putSpan : GoodIn wsX0_widen wsX0_putSpan := goodIn_r _ [17, 13, 18] (by decide +kernel) (by decide +kernel)
set_option maxRecDepth 20000 in
theorem gX0_widen_X0_putSpan : GoodIn wsX0_widen (wsV RX0 15 RX0 yX0_putSpan wsX0_putSpan) := goodIn_app (goodIn_of _ (by decide +kernel)) ggX0_widen_X0_putSpan
theorem dX0_widen_0 : decode cX0_widen 0 = .ok (.iconst 0, 1) := by decide +kernel
theorem dX0_widen_1 : decode cX0_widen 1 = .ok (.istore 4, 2) := by decide +kernel
theorem dX0_widen_3 : decode cX0_widen 3 = .ok (.iload 4, 2) := by decide +kernel
theorem dX0_widen_5 : decode cX0_widen 5 = .ok (.iconst 3, 1) := by decide +kernel
theorem dX0_widen_6 : decode cX0_widen 6 = .ok (.if_icmp .ge 62, 3) := by decide +kernel
theorem dX0_widen_9 : decode cX0_widen 9 = .ok (.aload_n 0, 1) := by decide +kernel
theorem dX0_widen_10 : decode cX0_widen 10 = .ok (.iload_n 1, 1) := by decide +kernel
theorem dX0_widen_11 : decode cX0_widen 11 = .ok (.iload 4, 2) := by decide +kernel
theorem dX0_widen_13 : decode cX0_widen 13 = .ok (.iconst 0, 1) := by decide +kernel
theorem dX0_widen_14 : decode cX0_widen 14 = .ok (.invokevirtual 19, 3) := by decide +kernel
theorem dX0_widen_17 : decode cX0_widen 17 = .ok (.aload_n 2, 1) := by decide +kernel
theorem dX0_widen_18 : decode cX0_widen 18 = .ok (.iload_n 3, 1) := by decide +kernel
theorem dX0_widen_19 : decode cX0_widen 19 = .ok (.iload 4, 2) := by decide +kernel
theorem dX0_widen_21 : decode cX0_widen 21 = .ok (.iconst 0, 1) := by decide +kernel
theorem dX0_widen_22 : decode cX0_widen 22 = .ok (.invokevirtual 19, 3) := by decide +kernel
theorem dX0_widen_25 : decode cX0_widen 25 = .ok (.invokestatic 23, 3) := by decide +kernel
theorem dX0_widen_28 : decode cX0_widen 28 = .ok (.istore 5, 2) := by decide +kernel
theorem dX0_widen_30 : decode cX0_widen 30 = .ok (.aload_n 0, 1) := by decide +kernel
theorem dX0_widen_31 : decode cX0_widen 31 = .ok (.iload_n 1, 1) := by decide +kernel
theorem dX0_widen_32 : decode cX0_widen 32 = .ok (.iload 4, 2) := by decide +kernel
theorem dX0_widen_34 : decode cX0_widen 34 = .ok (.iconst 1, 1) := by decide +kernel
theorem dX0_widen_35 : decode cX0_widen 35 = .ok (.invokevirtual 19, 3) := by decide +kernel
theorem dX0_widen_38 : decode cX0_widen 38 = .ok (.aload_n 2, 1) := by decide +kernel
theorem dX0_widen_39 : decode cX0_widen 39 = .ok (.iload_n 3, 1) := by decide +kernel
theorem dX0_widen_40 : decode cX0_widen 40 = .ok (.iload 4, 2) := by decide +kernel
theorem dX0_widen_42 : decode cX0_widen 42 = .ok (.iconst 1, 1) := by decide +kernel
theorem dX0_widen_43 : decode cX0_widen 43 = .ok (.invokevirtual 19, 3) := by decide +kernel
theorem dX0_widen_46 : decode cX0_widen 46 = .ok (.invokestatic 29, 3) := by decide +kernel
theorem dX0_widen_49 : decode cX0_widen 49 = .ok (.istore 6, 2) := by decide +kernel
theorem dX0_widen_51 : decode cX0_widen 51 = .ok (.aload_n 0, 1) := by decide +kernel
theorem dX0_widen_52 : decode cX0_widen 52 = .ok (.iload_n 1, 1) := by decide +kernel
theorem dX0_widen_53 : decode cX0_widen 53 = .ok (.iload 4, 2) := by decide +kernel
theorem dX0_widen_55 : decode cX0_widen 55 = .ok (.iload 5, 2) := by decide +kernel
theorem dX0_widen_57 : decode cX0_widen 57 = .ok (.iload 6, 2) := by decide +kernel
theorem dX0_widen_59 : decode cX0_widen 59 = .ok (.invokevirtual 15, 3) := by decide +kernel
theorem dX0_widen_62 : decode cX0_widen 62 = .ok (.iinc 4 1, 3) := by decide +kernel
theorem dX0_widen_65 : decode cX0_widen 65 = .ok (.goto (-62), 3) := by decide +kernel
theorem dX0_widen_68 : decode cX0_widen 68 = .ok (.return_, 1) := by decide +kernel
set_option maxRecDepth 20000 in
theorem ggX0_sum_X0_at : GoodIn wsX0_sum wsX0_at := goodIn_r _ [5, 6, 7] (by decide +kernel) (by decide +kernel)
set_option maxRecDepth 20000 in
theorem gX0_sum_X0_at : GoodIn wsX0_sum (wsV RX0 19 RX0 yX0_at wsX0_at) := goodIn_app (goodIn_of _ (by decide +kernel)) ggX0_sum_X0_at
theorem dX0_sum_0 : decode cX0_sum 0 = .ok (.aload_n 0, 1) := by decide +kernel
theorem dX0_sum_1 : decode cX0_sum 1 = .ok (.iload_n 1, 1) := by decide +kernel
theorem dX0_sum_2 : decode cX0_sum 2 = .ok (.iload_n 2, 1) := by decide +kernel
theorem dX0_sum_3 : decode cX0_sum 3 = .ok (.iconst 0, 1) := by decide +kernel
theorem dX0_sum_4 : decode cX0_sum 4 = .ok (.invokevirtual 19, 3) := by decide +kernel
theorem dX0_sum_7 : decode cX0_sum 7 = .ok (.aload_n 0, 1) := by decide +kernel
theorem dX0_sum_8 : decode cX0_sum 8 = .ok (.iload_n 1, 1) := by decide +kernel
theorem dX0_sum_9 : decode cX0_sum 9 = .ok (.iload_n 2, 1) := by decide +kernel
theorem dX0_sum_10 : decode cX0_sum 10 = .ok (.iconst 1, 1) := by decide +kernel
theorem dX0_sum_11 : decode cX0_sum 11 = .ok (.invokevirtual 19, 3) := by decide +kernel
theorem dX0_sum_14 : decode cX0_sum 14 = .ok (.iadd, 1) := by decide +kernel
theorem dX0_sum_15 : decode cX0_sum 15 = .ok (.ireturn, 1) := by decide +kernel
set_option maxRecDepth 20000 in
theorem ggX0_squareTo_X0_squareOnAxis : GoodIn wsX0_squareTo wsX0_squareOnAxis := goodIn_r _ [5, 6, 7, 8, 9, 10, 11, 12, 4, 13, 14, 15] (by decide +kernel) (by decide +kernel)
set_option maxRecDepth 20000 in
theorem gX0_squareTo_X0_squareOnAxis : GoodIn wsX0_squareTo (wsV RX0 32 RX0 yX0_squareOnAxis wsX0_squareOnAxis) := goodIn_app (goodIn_of _ (by decide +kernel)) ggX0_squareTo_X0_squareOnAxis
theorem dX0_squareTo_0 : decode cX0_squareTo 0 = .ok (.aload_n 0, 1) := by decide +kernel
theorem dX0_squareTo_1 : decode cX0_squareTo 1 = .ok (.iload_n 1, 1) := by decide +kernel
theorem dX0_squareTo_2 : decode cX0_squareTo 2 = .ok (.iconst 0, 1) := by decide +kernel
theorem dX0_squareTo_3 : decode cX0_squareTo 3 = .ok (.iload_n 3, 1) := by decide +kernel
theorem dX0_squareTo_4 : decode cX0_squareTo 4 = .ok (.invokevirtual 32, 3) := by decide +kernel
theorem dX0_squareTo_7 : decode cX0_squareTo 7 = .ok (.lstore 6, 2) := by decide +kernel
theorem dX0_squareTo_9 : decode cX0_squareTo 9 = .ok (.iload_n 2, 1) := by decide +kernel
theorem dX0_squareTo_10 : decode cX0_squareTo 10 = .ok (.iconst 1, 1) := by decide +kernel
theorem dX0_squareTo_11 : decode cX0_squareTo 11 = .ok (.if_icmp .le 16, 3) := by decide +kernel
theorem dX0_squareTo_14 : decode cX0_squareTo 14 = .ok (.lload 6, 2) := by decide +kernel
theorem dX0_squareTo_16 : decode cX0_squareTo 16 = .ok (.aload_n 0, 1) := by decide +kernel
theorem dX0_squareTo_17 : decode cX0_squareTo 17 = .ok (.iload_n 1, 1) := by decide +kernel
theorem dX0_squareTo_18 : decode cX0_squareTo 18 = .ok (.iconst 1, 1) := by decide +kernel
theorem dX0_squareTo_19 : decode cX0_squareTo 19 = .ok (.iload 4, 2) := by decide +kernel
theorem dX0_squareTo_21 : decode cX0_squareTo 21 = .ok (.invokevirtual 32, 3) := by decide +kernel
theorem dX0_squareTo_24 : decode cX0_squareTo 24 = .ok (.ladd, 1) := by decide +kernel
theorem dX0_squareTo_25 : decode cX0_squareTo 25 = .ok (.lstore 6, 2) := by decide +kernel
theorem dX0_squareTo_27 : decode cX0_squareTo 27 = .ok (.iload_n 2, 1) := by decide +kernel
theorem dX0_squareTo_28 : decode cX0_squareTo 28 = .ok (.iconst 2, 1) := by decide +kernel
theorem dX0_squareTo_29 : decode cX0_squareTo 29 = .ok (.if_icmp .le 16, 3) := by decide +kernel
theorem dX0_squareTo_32 : decode cX0_squareTo 32 = .ok (.lload 6, 2) := by decide +kernel
theorem dX0_squareTo_34 : decode cX0_squareTo 34 = .ok (.aload_n 0, 1) := by decide +kernel
theorem dX0_squareTo_35 : decode cX0_squareTo 35 = .ok (.iload_n 1, 1) := by decide +kernel
theorem dX0_squareTo_36 : decode cX0_squareTo 36 = .ok (.iconst 2, 1) := by decide +kernel
theorem dX0_squareTo_37 : decode cX0_squareTo 37 = .ok (.iload 5, 2) := by decide +kernel
theorem dX0_squareTo_39 : decode cX0_squareTo 39 = .ok (.invokevirtual 32, 3) := by decide +kernel
theorem dX0_squareTo_42 : decode cX0_squareTo 42 = .ok (.ladd, 1) := by decide +kernel
theorem dX0_squareTo_43 : decode cX0_squareTo 43 = .ok (.lstore 6, 2) := by decide +kernel
theorem dX0_squareTo_45 : decode cX0_squareTo 45 = .ok (.lload 6, 2) := by decide +kernel
theorem dX0_squareTo_47 : decode cX0_squareTo 47 = .ok (.lreturn, 1) := by decide +kernel
set_option maxRecDepth 20000 in
theorem ggX0_squareOnAxis_X0_at : GoodIn wsX0_squareOnAxis wsX0_at := goodIn_r _ [9, 10, 11] (by decide +kernel) (by decide +kernel)
set_option maxRecDepth 20000 in
theorem gX0_squareOnAxis_X0_at : GoodIn wsX0_squareOnAxis (wsV RX0 19 RX0 yX0_at wsX0_at) := goodIn_app (goodIn_of _ (by decide +kernel)) ggX0_squareOnAxis_X0_at
theorem dX0_squareOnAxis_0 : decode cX0_squareOnAxis 0 = .ok (.aload_n 0, 1) := by decide +kernel
theorem dX0_squareOnAxis_1 : decode cX0_squareOnAxis 1 = .ok (.iload_n 1, 1) := by decide +kernel
theorem dX0_squareOnAxis_2 : decode cX0_squareOnAxis 2 = .ok (.iload_n 2, 1) := by decide +kernel
theorem dX0_squareOnAxis_3 : decode cX0_squareOnAxis 3 = .ok (.iconst 0, 1) := by decide +kernel
theorem dX0_squareOnAxis_4 : decode cX0_squareOnAxis 4 = .ok (.invokevirtual 19, 3) := by decide +kernel
theorem dX0_squareOnAxis_7 : decode cX0_squareOnAxis 7 = .ok (.i2l, 1) := by decide +kernel
theorem dX0_squareOnAxis_8 : decode cX0_squareOnAxis 8 = .ok (.iload_n 3, 1) := by decide +kernel
theorem dX0_squareOnAxis_9 : decode cX0_squareOnAxis 9 = .ok (.i2l, 1) := by decide +kernel
theorem dX0_squareOnAxis_10 : decode cX0_squareOnAxis 10 = .ok (.lsub, 1) := by decide +kernel
theorem dX0_squareOnAxis_11 : decode cX0_squareOnAxis 11 = .ok (.lstore 4, 2) := by decide +kernel
theorem dX0_squareOnAxis_13 : decode cX0_squareOnAxis 13 = .ok (.iload_n 3, 1) := by decide +kernel
theorem dX0_squareOnAxis_14 : decode cX0_squareOnAxis 14 = .ok (.i2l, 1) := by decide +kernel
theorem dX0_squareOnAxis_15 : decode cX0_squareOnAxis 15 = .ok (.aload_n 0, 1) := by decide +kernel
theorem dX0_squareOnAxis_16 : decode cX0_squareOnAxis 16 = .ok (.iload_n 1, 1) := by decide +kernel
theorem dX0_squareOnAxis_17 : decode cX0_squareOnAxis 17 = .ok (.iload_n 2, 1) := by decide +kernel
theorem dX0_squareOnAxis_18 : decode cX0_squareOnAxis 18 = .ok (.iconst 1, 1) := by decide +kernel
theorem dX0_squareOnAxis_19 : decode cX0_squareOnAxis 19 = .ok (.invokevirtual 19, 3) := by decide +kernel
theorem dX0_squareOnAxis_22 : decode cX0_squareOnAxis 22 = .ok (.i2l, 1) := by decide +kernel
theorem dX0_squareOnAxis_23 : decode cX0_squareOnAxis 23 = .ok (.lsub, 1) := by decide +kernel
theorem dX0_squareOnAxis_24 : decode cX0_squareOnAxis 24 = .ok (.lstore 6, 2) := by decide +kernel
theorem dX0_squareOnAxis_26 : decode cX0_squareOnAxis 26 = .ok (.lconst 0, 1) := by decide +kernel
theorem dX0_squareOnAxis_27 : decode cX0_squareOnAxis 27 = .ok (.lload 4, 2) := by decide +kernel
theorem dX0_squareOnAxis_29 : decode cX0_squareOnAxis 29 = .ok (.lload 6, 2) := by decide +kernel
theorem dX0_squareOnAxis_31 : decode cX0_squareOnAxis 31 = .ok (.invokestatic 36, 3) := by decide +kernel
theorem dX0_squareOnAxis_34 : decode cX0_squareOnAxis 34 = .ok (.invokestatic 36, 3) := by decide +kernel
theorem dX0_squareOnAxis_37 : decode cX0_squareOnAxis 37 = .ok (.lstore 8, 2) := by decide +kernel
theorem dX0_squareOnAxis_39 : decode cX0_squareOnAxis 39 = .ok (.lload 8, 2) := by decide +kernel
theorem dX0_squareOnAxis_41 : decode cX0_squareOnAxis 41 = .ok (.lload 8, 2) := by decide +kernel
theorem dX0_squareOnAxis_43 : decode cX0_squareOnAxis 43 = .ok (.lmul, 1) := by decide +kernel
theorem dX0_squareOnAxis_44 : decode cX0_squareOnAxis 44 = .ok (.lreturn, 1) := by decide +kernel
set_option maxRecDepth 20000 in
theorem ggX0_meet_X0_at : GoodIn wsX0_meet wsX0_at := goodIn_r _ [5, 6, 7] (by decide +kernel) (by decide +kernel)
set_option maxRecDepth 20000 in
theorem gX0_meet_X0_at : GoodIn wsX0_meet (wsV RX0 19 RX0 yX0_at wsX0_at) := goodIn_app (goodIn_of _ (by decide +kernel)) ggX0_meet_X0_at
theorem dX0_meet_0 : decode cX0_meet 0 = .ok (.iconst 0, 1) := by decide +kernel
theorem dX0_meet_1 : decode cX0_meet 1 = .ok (.istore 5, 2) := by decide +kernel
theorem dX0_meet_3 : decode cX0_meet 3 = .ok (.iload 5, 2) := by decide +kernel
theorem dX0_meet_5 : decode cX0_meet 5 = .ok (.iload 4, 2) := by decide +kernel
theorem dX0_meet_7 : decode cX0_meet 7 = .ok (.if_icmp .ge 49, 3) := by decide +kernel
theorem dX0_meet_10 : decode cX0_meet 10 = .ok (.aload_n 0, 1) := by decide +kernel
theorem dX0_meet_11 : decode cX0_meet 11 = .ok (.iload_n 1, 1) := by decide +kernel
theorem dX0_meet_12 : decode cX0_meet 12 = .ok (.iload 5, 2) := by decide +kernel
theorem dX0_meet_14 : decode cX0_meet 14 = .ok (.iconst 0, 1) := by decide +kernel
theorem dX0_meet_15 : decode cX0_meet 15 = .ok (.invokevirtual 19, 3) := by decide +kernel
theorem dX0_meet_18 : decode cX0_meet 18 = .ok (.aload_n 2, 1) := by decide +kernel
theorem dX0_meet_19 : decode cX0_meet 19 = .ok (.iload_n 3, 1) := by decide +kernel
theorem dX0_meet_20 : decode cX0_meet 20 = .ok (.iload 5, 2) := by decide +kernel
theorem dX0_meet_22 : decode cX0_meet 22 = .ok (.iconst 1, 1) := by decide +kernel
theorem dX0_meet_23 : decode cX0_meet 23 = .ok (.invokevirtual 19, 3) := by decide +kernel
theorem dX0_meet_26 : decode cX0_meet 26 = .ok (.if_icmp .gt 22, 3) := by decide +kernel
theorem dX0_meet_29 : decode cX0_meet 29 = .ok (.aload_n 2, 1) := by decide +kernel
theorem dX0_meet_30 : decode cX0_meet 30 = .ok (.iload_n 3, 1) := by decide +kernel
theorem dX0_meet_31 : decode cX0_meet 31 = .ok (.iload 5, 2) := by decide +kernel
theorem dX0_meet_33 : decode cX0_meet 33 = .ok (.iconst 0, 1) := by decide +kernel
theorem dX0_meet_34 : decode cX0_meet 34 = .ok (.invokevirtual 19, 3) := by decide +kernel
theorem dX0_meet_37 : decode cX0_meet 37 = .ok (.aload_n 0, 1) := by decide +kernel
theorem dX0_meet_38 : decode cX0_meet 38 = .ok (.iload_n 1, 1) := by decide +kernel
theorem dX0_meet_39 : decode cX0_meet 39 = .ok (.iload 5, 2) := by decide +kernel
theorem dX0_meet_41 : decode cX0_meet 41 = .ok (.iconst 1, 1) := by decide +kernel
theorem dX0_meet_42 : decode cX0_meet 42 = .ok (.invokevirtual 19, 3) := by decide +kernel
theorem dX0_meet_45 : decode cX0_meet 45 = .ok (.if_icmp .le 5, 3) := by decide +kernel
theorem dX0_meet_48 : decode cX0_meet 48 = .ok (.iconst 0, 1) := by decide +kernel
theorem dX0_meet_49 : decode cX0_meet 49 = .ok (.ireturn, 1) := by decide +kernel
theorem dX0_meet_50 : decode cX0_meet 50 = .ok (.iinc 5 1, 3) := by decide +kernel
theorem dX0_meet_53 : decode cX0_meet 53 = .ok (.goto (-50), 3) := by decide +kernel
theorem dX0_meet_56 : decode cX0_meet 56 = .ok (.iconst 1, 1) := by decide +kernel
theorem dX0_meet_57 : decode cX0_meet 57 = .ok (.ireturn, 1) := by decide +kernel
set_option maxRecDepth 20000 in
theorem ggX0_within_X0_at : GoodIn wsX0_within wsX0_at := goodIn_r _ [5, 6, 7] (by decide +kernel) (by decide +kernel)
set_option maxRecDepth 20000 in
theorem gX0_within_X0_at : GoodIn wsX0_within (wsV RX0 19 RX0 yX0_at wsX0_at) := goodIn_app (goodIn_of _ (by decide +kernel)) ggX0_within_X0_at
theorem dX0_within_0 : decode cX0_within 0 = .ok (.iconst 0, 1) := by decide +kernel
theorem dX0_within_1 : decode cX0_within 1 = .ok (.istore 5, 2) := by decide +kernel
theorem dX0_within_3 : decode cX0_within 3 = .ok (.iload 5, 2) := by decide +kernel
theorem dX0_within_5 : decode cX0_within 5 = .ok (.iload 4, 2) := by decide +kernel
theorem dX0_within_7 : decode cX0_within 7 = .ok (.if_icmp .ge 49, 3) := by decide +kernel
theorem dX0_within_10 : decode cX0_within 10 = .ok (.aload_n 0, 1) := by decide +kernel
theorem dX0_within_11 : decode cX0_within 11 = .ok (.iload_n 1, 1) := by decide +kernel
theorem dX0_within_12 : decode cX0_within 12 = .ok (.iload 5, 2) := by decide +kernel
theorem dX0_within_14 : decode cX0_within 14 = .ok (.iconst 0, 1) := by decide +kernel
theorem dX0_within_15 : decode cX0_within 15 = .ok (.invokevirtual 19, 3) := by decide +kernel
theorem dX0_within_18 : decode cX0_within 18 = .ok (.aload_n 2, 1) := by decide +kernel
theorem dX0_within_19 : decode cX0_within 19 = .ok (.iload_n 3, 1) := by decide +kernel
theorem dX0_within_20 : decode cX0_within 20 = .ok (.iload 5, 2) := by decide +kernel
theorem dX0_within_22 : decode cX0_within 22 = .ok (.iconst 0, 1) := by decide +kernel
theorem dX0_within_23 : decode cX0_within 23 = .ok (.invokevirtual 19, 3) := by decide +kernel
theorem dX0_within_26 : decode cX0_within 26 = .ok (.if_icmp .lt 22, 3) := by decide +kernel
theorem dX0_within_29 : decode cX0_within 29 = .ok (.aload_n 0, 1) := by decide +kernel
theorem dX0_within_30 : decode cX0_within 30 = .ok (.iload_n 1, 1) := by decide +kernel
theorem dX0_within_31 : decode cX0_within 31 = .ok (.iload 5, 2) := by decide +kernel
theorem dX0_within_33 : decode cX0_within 33 = .ok (.iconst 1, 1) := by decide +kernel
theorem dX0_within_34 : decode cX0_within 34 = .ok (.invokevirtual 19, 3) := by decide +kernel
theorem dX0_within_37 : decode cX0_within 37 = .ok (.aload_n 2, 1) := by decide +kernel
theorem dX0_within_38 : decode cX0_within 38 = .ok (.iload_n 3, 1) := by decide +kernel
theorem dX0_within_39 : decode cX0_within 39 = .ok (.iload 5, 2) := by decide +kernel
theorem dX0_within_41 : decode cX0_within 41 = .ok (.iconst 1, 1) := by decide +kernel
theorem dX0_within_42 : decode cX0_within 42 = .ok (.invokevirtual 19, 3) := by decide +kernel
theorem dX0_within_45 : decode cX0_within 45 = .ok (.if_icmp .le 5, 3) := by decide +kernel
theorem dX0_within_48 : decode cX0_within 48 = .ok (.iconst 0, 1) := by decide +kernel
theorem dX0_within_49 : decode cX0_within 49 = .ok (.ireturn, 1) := by decide +kernel
theorem dX0_within_50 : decode cX0_within 50 = .ok (.iinc 5 1, 3) := by decide +kernel
theorem dX0_within_53 : decode cX0_within 53 = .ok (.goto (-50), 3) := by decide +kernel
theorem dX0_within_56 : decode cX0_within 56 = .ok (.iconst 1, 1) := by decide +kernel
theorem dX0_within_57 : decode cX0_within 57 = .ok (.ireturn, 1) := by decide +kernel
set_option maxRecDepth 20000 in
theorem ggX1_init_X0_init : GoodIn wsX1_init wsX0_init := goodIn_r _ [24, 25, 2, 3, 11, 26, 45] (by decide +kernel) (by decide +kernel)
set_option maxRecDepth 20000 in
theorem gX1_init_X0_init_n21 : GoodIn wsX1_init (wsX0_init) := ggX1_init_X0_init
theorem dX1_init_0 : decode cX1_init 0 = .ok (.aload_n 0, 1) := by decide +kernel
theorem dX1_init_1 : decode cX1_init 1 = .ok (.invokespecial 3, 3) := by decide +kernel
theorem dX1_init_4 : decode cX1_init 4 = .ok (.aload_n 0, 1) := by decide +kernel
theorem dX1_init_5 : decode cX1_init 5 = .ok (.iconst 1, 1) := by decide +kernel
theorem dX1_init_6 : decode cX1_init 6 = .ok (.putfield 9, 3) := by decide +kernel
theorem dX1_init_9 : decode cX1_init 9 = .ok (.aload_n 0, 1) := by decide +kernel
theorem dX1_init_10 : decode cX1_init 10 = .ok (.bipush 64, 2) := by decide +kernel
theorem dX1_init_12 : decode cX1_init 12 = .ok (.newarray .boolean, 2) := by decide +kernel
theorem dX1_init_14 : decode cX1_init 14 = .ok (.putfield 15, 3) := by decide +kernel
theorem dX1_init_17 : decode cX1_init 17 = .ok (.aload_n 0, 1) := by decide +kernel
theorem dX1_init_18 : decode cX1_init 18 = .ok (.new 19, 3) := by decide +kernel
theorem dX1_init_21 : decode cX1_init 21 = .ok (.dup, 1) := by decide +kernel
theorem dX1_init_22 : decode cX1_init 22 = .ok (.bipush 64, 2) := by decide +kernel
theorem dX1_init_24 : decode cX1_init 24 = .ok (.invokespecial 21, 3) := by decide +kernel
theorem dX1_init_27 : decode cX1_init 27 = .ok (.putfield 24, 3) := by decide +kernel
theorem dX1_init_30 : decode cX1_init 30 = .ok (.aload_n 0, 1) := by decide +kernel
theorem dX1_init_31 : decode cX1_init 31 = .ok (.bipush 64, 2) := by decide +kernel
theorem dX1_init_33 : decode cX1_init 33 = .ok (.newarray .int, 2) := by decide +kernel
theorem dX1_init_35 : decode cX1_init 35 = .ok (.putfield 28, 3) := by decide +kernel
theorem dX1_init_38 : decode cX1_init 38 = .ok (.aload_n 0, 1) := by decide +kernel
theorem dX1_init_39 : decode cX1_init 39 = .ok (.bipush 31, 2) := by decide +kernel
theorem dX1_init_41 : decode cX1_init 41 = .ok (.newarray .int, 2) := by decide +kernel
theorem dX1_init_43 : decode cX1_init 43 = .ok (.putfield 32, 3) := by decide +kernel
theorem dX1_init_46 : decode cX1_init 46 = .ok (.aload_n 0, 1) := by decide +kernel
theorem dX1_init_47 : decode cX1_init 47 = .ok (.bipush 31, 2) := by decide +kernel
theorem dX1_init_49 : decode cX1_init 49 = .ok (.newarray .int, 2) := by decide +kernel
theorem dX1_init_51 : decode cX1_init 51 = .ok (.putfield 35, 3) := by decide +kernel
theorem dX1_init_54 : decode cX1_init 54 = .ok (.aload_n 0, 1) := by decide +kernel
theorem dX1_init_55 : decode cX1_init 55 = .ok (.bipush 31, 2) := by decide +kernel
theorem dX1_init_57 : decode cX1_init 57 = .ok (.newarray .int, 2) := by decide +kernel
theorem dX1_init_59 : decode cX1_init 59 = .ok (.putfield 38, 3) := by decide +kernel
theorem dX1_init_62 : decode cX1_init 62 = .ok (.aload_n 0, 1) := by decide +kernel
theorem dX1_init_63 : decode cX1_init 63 = .ok (.bipush 31, 2) := by decide +kernel
theorem dX1_init_65 : decode cX1_init 65 = .ok (.newarray .int, 2) := by decide +kernel
theorem dX1_init_67 : decode cX1_init 67 = .ok (.putfield 41, 3) := by decide +kernel
theorem dX1_init_70 : decode cX1_init 70 = .ok (.aload_n 0, 1) := by decide +kernel
theorem dX1_init_71 : decode cX1_init 71 = .ok (.new 19, 3) := by decide +kernel
theorem dX1_init_74 : decode cX1_init 74 = .ok (.dup, 1) := by decide +kernel
theorem dX1_init_75 : decode cX1_init 75 = .ok (.bipush 31, 2) := by decide +kernel
theorem dX1_init_77 : decode cX1_init 77 = .ok (.invokespecial 21, 3) := by decide +kernel
theorem dX1_init_80 : decode cX1_init 80 = .ok (.putfield 44, 3) := by decide +kernel
theorem dX1_init_83 : decode cX1_init 83 = .ok (.aload_n 0, 1) := by decide +kernel
theorem dX1_init_84 : decode cX1_init 84 = .ok (.new 19, 3) := by decide +kernel
theorem dX1_init_87 : decode cX1_init 87 = .ok (.dup, 1) := by decide +kernel
theorem dX1_init_88 : decode cX1_init 88 = .ok (.iconst 1, 1) := by decide +kernel
theorem dX1_init_89 : decode cX1_init 89 = .ok (.invokespecial 21, 3) := by decide +kernel
theorem dX1_init_92 : decode cX1_init 92 = .ok (.putfield 47, 3) := by decide +kernel
theorem dX1_init_95 : decode cX1_init 95 = .ok (.aload_n 0, 1) := by decide +kernel
theorem dX1_init_96 : decode cX1_init 96 = .ok (.bipush 64, 2) := by decide +kernel
theorem dX1_init_98 : decode cX1_init 98 = .ok (.newarray .boolean, 2) := by decide +kernel
theorem dX1_init_100 : decode cX1_init 100 = .ok (.putfield 50, 3) := by decide +kernel
theorem dX1_init_103 : decode cX1_init 103 = .ok (.aload_n 0, 1) := by decide +kernel
theorem dX1_init_104 : decode cX1_init 104 = .ok (.iconst 3, 1) := by decide +kernel
theorem dX1_init_105 : decode cX1_init 105 = .ok (.newarray .int, 2) := by decide +kernel
theorem dX1_init_107 : decode cX1_init 107 = .ok (.putfield 53, 3) := by decide +kernel
theorem dX1_init_110 : decode cX1_init 110 = .ok (.aload_n 0, 1) := by decide +kernel
theorem dX1_init_111 : decode cX1_init 111 = .ok (.bipush 64, 2) := by decide +kernel
theorem dX1_init_113 : decode cX1_init 113 = .ok (.newarray .long, 2) := by decide +kernel
theorem dX1_init_115 : decode cX1_init 115 = .ok (.putfield 56, 3) := by decide +kernel
theorem dX1_init_118 : decode cX1_init 118 = .ok (.return_, 1) := by decide +kernel
set_option maxRecDepth 20000 in
theorem ggX1_dimensions_X1_forgetAsked : GoodIn wsX1_dimensions wsX1_forgetAsked := goodIn_r _ [10, 11, 12, 13, 14, 15, 16, 17, 18, 19, 20, 21, 22, 23, 24, 25, 26, 27, 28, 29, 30, 31] (by decide +kernel) (by decide +kernel)
set_option maxRecDepth 20000 in
theorem gX1_dimensions_X1_forgetAsked : GoodIn wsX1_dimensions (wsV RX1 72 RX1 yX1_forgetAsked wsX1_forgetAsked) := goodIn_app (goodIn_of _ (by decide +kernel)) ggX1_dimensions_X1_forgetAsked
theorem dX1_dimensions_0 : decode cX1_dimensions 0 = .ok (.iload_n 1, 1) := by decide +kernel
theorem dX1_dimensions_1 : decode cX1_dimensions 1 = .ok (.iconst 1, 1) := by decide +kernel
theorem dX1_dimensions_2 : decode cX1_dimensions 2 = .ok (.if_icmp .lt 8, 3) := by decide +kernel
theorem dX1_dimensions_5 : decode cX1_dimensions 5 = .ok (.iload_n 1, 1) := by decide +kernel
theorem dX1_dimensions_6 : decode cX1_dimensions 6 = .ok (.iconst 3, 1) := by decide +kernel
theorem dX1_dimensions_7 : decode cX1_dimensions 7 = .ok (.if_icmp .le 6, 3) := by decide +kernel
theorem dX1_dimensions_10 : decode cX1_dimensions 10 = .ok (.bipush (-2), 2) := by decide +kernel
theorem dX1_dimensions_12 : decode cX1_dimensions 12 = .ok (.ireturn, 1) := by decide +kernel
theorem dX1_dimensions_13 : decode cX1_dimensions 13 = .ok (.aload_n 0, 1) := by decide +kernel
theorem dX1_dimensions_14 : decode cX1_dimensions 14 = .ok (.getfield 9, 3) := by decide +kernel
theorem dX1_dimensions_17 : decode cX1_dimensions 17 = .ok (.istore_n 2, 1) := by decide +kernel
theorem dX1_dimensions_18 : decode cX1_dimensions 18 = .ok (.aload_n 0, 1) := by decide +kernel
theorem dX1_dimensions_19 : decode cX1_dimensions 19 = .ok (.iload_n 1, 1) := by decide +kernel
theorem dX1_dimensions_20 : decode cX1_dimensions 20 = .ok (.putfield 9, 3) := by decide +kernel
theorem dX1_dimensions_23 : decode cX1_dimensions 23 = .ok (.aload_n 0, 1) := by decide +kernel
theorem dX1_dimensions_24 : decode cX1_dimensions 24 = .ok (.iconst 0, 1) := by decide +kernel
theorem dX1_dimensions_25 : decode cX1_dimensions 25 = .ok (.putfield 60, 3) := by decide +kernel
theorem dX1_dimensions_28 : decode cX1_dimensions 28 = .ok (.aload_n 0, 1) := by decide +kernel
theorem dX1_dimensions_29 : decode cX1_dimensions 29 = .ok (.iconst 0, 1) := by decide +kernel
theorem dX1_dimensions_30 : decode cX1_dimensions 30 = .ok (.putfield 63, 3) := by decide +kernel
theorem dX1_dimensions_33 : decode cX1_dimensions 33 = .ok (.aload_n 0, 1) := by decide +kernel
theorem dX1_dimensions_34 : decode cX1_dimensions 34 = .ok (.iconst 0, 1) := by decide +kernel
theorem dX1_dimensions_35 : decode cX1_dimensions 35 = .ok (.putfield 66, 3) := by decide +kernel
theorem dX1_dimensions_38 : decode cX1_dimensions 38 = .ok (.aload_n 0, 1) := by decide +kernel
theorem dX1_dimensions_39 : decode cX1_dimensions 39 = .ok (.iconst 0, 1) := by decide +kernel
theorem dX1_dimensions_40 : decode cX1_dimensions 40 = .ok (.putfield 69, 3) := by decide +kernel
theorem dX1_dimensions_43 : decode cX1_dimensions 43 = .ok (.aload_n 0, 1) := by decide +kernel
theorem dX1_dimensions_44 : decode cX1_dimensions 44 = .ok (.invokevirtual 72, 3) := by decide +kernel
theorem dX1_dimensions_47 : decode cX1_dimensions 47 = .ok (.iload_n 2, 1) := by decide +kernel
theorem dX1_dimensions_48 : decode cX1_dimensions 48 = .ok (.ireturn, 1) := by decide +kernel
set_option maxRecDepth 20000 in
theorem ggX1_thing_X1_isBox : GoodIn wsX1_thing wsX1_isBox := goodIn_r _ [9, 10, 11, 12, 8, 13, 14, 15, 25, 26, 27, 28, 29, 30, 31, 32, 33, 34, 35, 36, 37, 38, 39, 40, 41, 42] (by decide +kernel) (by decide +kernel)
set_option maxRecDepth 20000 in
theorem gX1_thing_X1_isBox : GoodIn wsX1_thing (wsV RX1 75 RX1 yX1_isBox wsX1_isBox) := goodIn_app (goodIn_of _ (by decide +kernel)) ggX1_thing_X1_isBox
set_option maxRecDepth 20000 in
theorem ggX1_thing_X0_put : GoodIn wsX1_thing wsX0_put := goodIn_r _ [19, 20, 21, 22, 17, 23, 24, 43] (by decide +kernel) (by decide +kernel)
set_option maxRecDepth 20000 in
theorem gX1_thing_X0_put_n79 : GoodIn wsX1_thing (wsX0_put) := ggX1_thing_X0_put
theorem dX1_thing_0 : decode cX1_thing 0 = .ok (.aload_n 0, 1) := by decide +kernel
theorem dX1_thing_1 : decode cX1_thing 1 = .ok (.iload_n 1, 1) := by decide +kernel
theorem dX1_thing_2 : decode cX1_thing 2 = .ok (.iload_n 2, 1) := by decide +kernel
theorem dX1_thing_3 : decode cX1_thing 3 = .ok (.iload_n 3, 1) := by decide +kernel
theorem dX1_thing_4 : decode cX1_thing 4 = .ok (.iload 4, 2) := by decide +kernel
theorem dX1_thing_6 : decode cX1_thing 6 = .ok (.iload 5, 2) := by decide +kernel
theorem dX1_thing_8 : decode cX1_thing 8 = .ok (.iload 6, 2) := by decide +kernel
theorem dX1_thing_10 : decode cX1_thing 10 = .ok (.invokevirtual 75, 3) := by decide +kernel
theorem dX1_thing_13 : decode cX1_thing 13 = .ok (.ifCond .ne 6, 3) := by decide +kernel
theorem dX1_thing_16 : decode cX1_thing 16 = .ok (.bipush (-2), 2) := by decide +kernel
theorem dX1_thing_18 : decode cX1_thing 18 = .ok (.ireturn, 1) := by decide +kernel
theorem dX1_thing_19 : decode cX1_thing 19 = .ok (.aload_n 0, 1) := by decide +kernel
theorem dX1_thing_20 : decode cX1_thing 20 = .ok (.getfield 60, 3) := by decide +kernel
theorem dX1_thing_23 : decode cX1_thing 23 = .ok (.bipush 64, 2) := by decide +kernel
theorem dX1_thing_25 : decode cX1_thing 25 = .ok (.if_icmp .lt 6, 3) := by decide +kernel
theorem dX1_thing_28 : decode cX1_thing 28 = .ok (.bipush (-4), 2) := by decide +kernel
theorem dX1_thing_30 : decode cX1_thing 30 = .ok (.ireturn, 1) := by decide +kernel
theorem dX1_thing_31 : decode cX1_thing 31 = .ok (.aload_n 0, 1) := by decide +kernel
theorem dX1_thing_32 : decode cX1_thing 32 = .ok (.getfield 60, 3) := by decide +kernel
theorem dX1_thing_35 : decode cX1_thing 35 = .ok (.istore 7, 2) := by decide +kernel
theorem dX1_thing_37 : decode cX1_thing 37 = .ok (.aload_n 0, 1) := by decide +kernel
theorem dX1_thing_38 : decode cX1_thing 38 = .ok (.getfield 24, 3) := by decide +kernel
theorem dX1_thing_41 : decode cX1_thing 41 = .ok (.iload 7, 2) := by decide +kernel
theorem dX1_thing_43 : decode cX1_thing 43 = .ok (.iload_n 1, 1) := by decide +kernel
theorem dX1_thing_44 : decode cX1_thing 44 = .ok (.iload_n 2, 1) := by decide +kernel
theorem dX1_thing_45 : decode cX1_thing 45 = .ok (.iload_n 3, 1) := by decide +kernel
theorem dX1_thing_46 : decode cX1_thing 46 = .ok (.iload 4, 2) := by decide +kernel
theorem dX1_thing_48 : decode cX1_thing 48 = .ok (.iload 5, 2) := by decide +kernel
theorem dX1_thing_50 : decode cX1_thing 50 = .ok (.iload 6, 2) := by decide +kernel
theorem dX1_thing_52 : decode cX1_thing 52 = .ok (.invokevirtual 79, 3) := by decide +kernel
theorem dX1_thing_55 : decode cX1_thing 55 = .ok (.aload_n 0, 1) := by decide +kernel
theorem dX1_thing_56 : decode cX1_thing 56 = .ok (.getfield 15, 3) := by decide +kernel
theorem dX1_thing_59 : decode cX1_thing 59 = .ok (.iload 7, 2) := by decide +kernel
theorem dX1_thing_61 : decode cX1_thing 61 = .ok (.iconst 1, 1) := by decide +kernel
theorem dX1_thing_62 : decode cX1_thing 62 = .ok (.bastore, 1) := by decide +kernel
theorem dX1_thing_63 : decode cX1_thing 63 = .ok (.aload_n 0, 1) := by decide +kernel
theorem dX1_thing_64 : decode cX1_thing 64 = .ok (.dup, 1) := by decide +kernel
theorem dX1_thing_65 : decode cX1_thing 65 = .ok (.getfield 60, 3) := by decide +kernel
theorem dX1_thing_68 : decode cX1_thing 68 = .ok (.iconst 1, 1) := by decide +kernel
theorem dX1_thing_69 : decode cX1_thing 69 = .ok (.iadd, 1) := by decide +kernel
theorem dX1_thing_70 : decode cX1_thing 70 = .ok (.putfield 60, 3) := by decide +kernel
theorem dX1_thing_73 : decode cX1_thing 73 = .ok (.aload_n 0, 1) := by decide +kernel
theorem dX1_thing_74 : decode cX1_thing 74 = .ok (.dup, 1) := by decide +kernel
theorem dX1_thing_75 : decode cX1_thing 75 = .ok (.getfield 63, 3) := by decide +kernel
theorem dX1_thing_78 : decode cX1_thing 78 = .ok (.iconst 1, 1) := by decide +kernel
theorem dX1_thing_79 : decode cX1_thing 79 = .ok (.iadd, 1) := by decide +kernel
theorem dX1_thing_80 : decode cX1_thing 80 = .ok (.putfield 63, 3) := by decide +kernel
theorem dX1_thing_83 : decode cX1_thing 83 = .ok (.iload 7, 2) := by decide +kernel
theorem dX1_thing_85 : decode cX1_thing 85 = .ok (.ireturn, 1) := by decide +kernel
set_option maxRecDepth 20000 in
theorem ggX1_drop_X1_hasThing : GoodIn wsX1_drop wsX1_hasThing := goodIn_r _ [7, 8, 1, 9, 10, 11, 12, 13, 14, 15, 16, 17, 18, 19, 20, 21, 22, 23, 24, 25, 26] (by decide +kernel) (by decide +kernel)
set_option maxRecDepth 20000 in
theorem gX1_drop_X1_hasThing : GoodIn wsX1_drop (wsV RX1 83 RX1 yX1_hasThing wsX1_hasThing) := goodIn_app (goodIn_of _ (by decide +kernel)) ggX1_drop_X1_hasThing
theorem dX1_drop_0 : decode cX1_drop 0 = .ok (.aload_n 0, 1) := by decide +kernel
theorem dX1_drop_1 : decode cX1_drop 1 = .ok (.iload_n 1, 1) := by decide +kernel
theorem dX1_drop_2 : decode cX1_drop 2 = .ok (.invokevirtual 83, 3) := by decide +kernel
theorem dX1_drop_5 : decode cX1_drop 5 = .ok (.ifCond .ne 5, 3) := by decide +kernel
theorem dX1_drop_8 : decode cX1_drop 8 = .ok (.iconst (-1), 1) := by decide +kernel
theorem dX1_drop_9 : decode cX1_drop 9 = .ok (.ireturn, 1) := by decide +kernel
theorem dX1_drop_10 : decode cX1_drop 10 = .ok (.aload_n 0, 1) := by decide +kernel
theorem dX1_drop_11 : decode cX1_drop 11 = .ok (.getfield 15, 3) := by decide +kernel
theorem dX1_drop_14 : decode cX1_drop 14 = .ok (.iload_n 1, 1) := by decide +kernel
theorem dX1_drop_15 : decode cX1_drop 15 = .ok (.iconst 0, 1) := by decide +kernel
theorem dX1_drop_16 : decode cX1_drop 16 = .ok (.bastore, 1) := by decide +kernel
theorem dX1_drop_17 : decode cX1_drop 17 = .ok (.aload_n 0, 1) := by decide +kernel
theorem dX1_drop_18 : decode cX1_drop 18 = .ok (.dup, 1) := by decide +kernel
theorem dX1_drop_19 : decode cX1_drop 19 = .ok (.getfield 63, 3) := by decide +kernel
theorem dX1_drop_22 : decode cX1_drop 22 = .ok (.iconst 1, 1) := by decide +kernel
theorem dX1_drop_23 : decode cX1_drop 23 = .ok (.isub, 1) := by decide +kernel
theorem dX1_drop_24 : decode cX1_drop 24 = .ok (.putfield 63, 3) := by decide +kernel
theorem dX1_drop_27 : decode cX1_drop 27 = .ok (.aload_n 0, 1) := by decide +kernel
theorem dX1_drop_28 : decode cX1_drop 28 = .ok (.getfield 63, 3) := by decide +kernel
theorem dX1_drop_31 : decode cX1_drop 31 = .ok (.ireturn, 1) := by decide +kernel
theorem dX1_count_0 : decode cX1_count 0 = .ok (.aload_n 0, 1) := by decide +kernel
theorem dX1_count_1 : decode cX1_count 1 = .ok (.getfield 63, 3) := by decide +kernel
theorem dX1_count_4 : decode cX1_count 4 = .ok (.ireturn, 1) := by decide +kernel
set_option maxRecDepth 20000 in
theorem ggX1_end_X1_hasThing : GoodIn wsX1_end wsX1_hasThing := goodIn_r _ [7, 8, 9, 20, 21, 22, 23, 24, 25, 26, 27, 28, 29, 30, 31, 32, 33, 34, 35, 36, 37] (by decide +kernel) (by decide +kernel)
set_option maxRecDepth 20000 in
theorem gX1_end_X1_hasThing : GoodIn wsX1_end (wsV RX1 83 RX1 yX1_hasThing wsX1_hasThing) := goodIn_app (goodIn_of _ (by decide +kernel)) ggX1_end_X1_hasThing
set_option maxRecDepth 20000 in
theorem ggX1_end_X1_hasEnd : GoodIn wsX1_end wsX1_hasEnd := goodIn_r _ [13, 14, 20, 21, 22, 23, 24, 25, 26, 27, 28, 29, 30, 31, 32, 33, 34, 35, 36, 37] (by decide +kernel) (by decide +kernel)
set_option maxRecDepth 20000 in
theorem gX1_end_X1_hasEnd : GoodIn wsX1_end (wsV RX1 87 RX1 yX1_hasEnd wsX1_hasEnd) := goodIn_app (goodIn_of _ (by decide +kernel)) ggX1_end_X1_hasEnd
set_option maxRecDepth 20000 in
theorem ggX1_end_X0_at : GoodIn wsX1_end wsX0_at := goodIn_r _ [18, 19, 38] (by decide +kernel) (by decide +kernel)
set_option maxRecDepth 20000 in
theorem gX1_end_X0_at_n93 : GoodIn wsX1_end (wsX0_at) := ggX1_end_X0_at
theorem dX1_end_0 : decode cX1_end 0 = .ok (.aload_n 0, 1) := by decide +kernel
theorem dX1_end_1 : decode cX1_end 1 = .ok (.iload_n 1, 1) := by decide +kernel
theorem dX1_end_2 : decode cX1_end 2 = .ok (.invokevirtual 83, 3) := by decide +kernel
theorem dX1_end_5 : decode cX1_end 5 = .ok (.ifCond .eq 12, 3) := by decide +kernel
theorem dX1_end_8 : decode cX1_end 8 = .ok (.aload_n 0, 1) := by decide +kernel
theorem dX1_end_9 : decode cX1_end 9 = .ok (.iload_n 2, 1) := by decide +kernel
theorem dX1_end_10 : decode cX1_end 10 = .ok (.iload_n 3, 1) := by decide +kernel
theorem dX1_end_11 : decode cX1_end 11 = .ok (.invokevirtual 87, 3) := by decide +kernel
theorem dX1_end_14 : decode cX1_end 14 = .ok (.ifCond .ne 7, 3) := by decide +kernel
theorem dX1_end_17 : decode cX1_end 17 = .ok (.ldc2_w 91, 3) := by decide +kernel
theorem dX1_end_20 : decode cX1_end 20 = .ok (.lreturn, 1) := by decide +kernel
theorem dX1_end_21 : decode cX1_end 21 = .ok (.aload_n 0, 1) := by decide +kernel
theorem dX1_end_22 : decode cX1_end 22 = .ok (.getfield 24, 3) := by decide +kernel
theorem dX1_end_25 : decode cX1_end 25 = .ok (.iload_n 1, 1) := by decide +kernel
theorem dX1_end_26 : decode cX1_end 26 = .ok (.iload_n 2, 1) := by decide +kernel
theorem dX1_end_27 : decode cX1_end 27 = .ok (.iload_n 3, 1) := by decide +kernel
theorem dX1_end_28 : decode cX1_end 28 = .ok (.invokevirtual 93, 3) := by decide +kernel
theorem dX1_end_31 : decode cX1_end 31 = .ok (.i2l, 1) := by decide +kernel
theorem dX1_end_32 : decode cX1_end 32 = .ok (.lreturn, 1) := by decide +kernel
set_option maxRecDepth 20000 in
theorem ggX1_build_X1_makeBlock : GoodIn wsX1_build wsX1_makeBlock := goodIn_r _ [10, 1, 11, 12, 13, 14, 15, 16, 17, 9, 18, 19, 20, 5, 21, 22, 23, 24, 25, 26, 27, 28, 29, 30, 31, 32, 33, 34, 35, 36, 37, 38, 39, 40, 41, 42, 43, 44, 45, 46, 47, 48, 49, 50, 51, 52, 53, 54, 55, 56, 57, 58, 59, 60, 61, 62, 63, 64, 65, 6, 7, 8, 66, 67, 68, 69, 70, 71, 72, 73, 74, 75, 76, 77, 78, 79, 80, 81, 82, 83, 84] (by decide +kernel) (by decide +kernel)
set_option maxRecDepth 20000 in
theorem gX1_build_X1_makeBlock : GoodIn wsX1_build (wsV RX1 97 RX1 yX1_makeBlock wsX1_makeBlock) := goodIn_app (goodIn_of _ (by decide +kernel)) ggX1_build_X1_makeBlock
theorem dX1_build_0 : decode cX1_build 0 = .ok (.aload_n 0, 1) := by decide +kernel
theorem dX1_build_1 : decode cX1_build 1 = .ok (.iconst 0, 1) := by decide +kernel
theorem dX1_build_2 : decode cX1_build 2 = .ok (.putfield 66, 3) := by decide +kernel
theorem dX1_build_5 : decode cX1_build 5 = .ok (.aload_n 0, 1) := by decide +kernel
theorem dX1_build_6 : decode cX1_build 6 = .ok (.aload_n 0, 1) := by decide +kernel
theorem dX1_build_7 : decode cX1_build 7 = .ok (.getfield 60, 3) := by decide +kernel
theorem dX1_build_10 : decode cX1_build 10 = .ok (.putfield 69, 3) := by decide +kernel
theorem dX1_build_13 : decode cX1_build 13 = .ok (.iconst 0, 1) := by decide +kernel
theorem dX1_build_14 : decode cX1_build 14 = .ok (.istore_n 1, 1) := by decide +kernel
theorem dX1_build_15 : decode cX1_build 15 = .ok (.iconst 0, 1) := by decide +kernel
theorem dX1_build_16 : decode cX1_build 16 = .ok (.istore_n 2, 1) := by decide +kernel
theorem dX1_build_17 : decode cX1_build 17 = .ok (.iload_n 2, 1) := by decide +kernel
theorem dX1_build_18 : decode cX1_build 18 = .ok (.aload_n 0, 1) := by decide +kernel
theorem dX1_build_19 : decode cX1_build 19 = .ok (.getfield 60, 3) := by decide +kernel
theorem dX1_build_22 : decode cX1_build 22 = .ok (.if_icmp .ge 28, 3) := by decide +kernel
theorem dX1_build_25 : decode cX1_build 25 = .ok (.aload_n 0, 1) := by decide +kernel
theorem dX1_build_26 : decode cX1_build 26 = .ok (.getfield 15, 3) := by decide +kernel
theorem dX1_build_29 : decode cX1_build 29 = .ok (.iload_n 2, 1) := by decide +kernel
theorem dX1_build_30 : decode cX1_build 30 = .ok (.baload, 1) := by decide +kernel
theorem dX1_build_31 : decode cX1_build 31 = .ok (.ifCond .eq 13, 3) := by decide +kernel
theorem dX1_build_34 : decode cX1_build 34 = .ok (.aload_n 0, 1) := by decide +kernel
theorem dX1_build_35 : decode cX1_build 35 = .ok (.getfield 28, 3) := by decide +kernel
theorem dX1_build_38 : decode cX1_build 38 = .ok (.iload_n 1, 1) := by decide +kernel
theorem dX1_build_39 : decode cX1_build 39 = .ok (.iload_n 2, 1) := by decide +kernel
theorem dX1_build_40 : decode cX1_build 40 = .ok (.iastore, 1) := by decide +kernel
theorem dX1_build_41 : decode cX1_build 41 = .ok (.iinc 1 1, 3) := by decide +kernel
theorem dX1_build_44 : decode cX1_build 44 = .ok (.iinc 2 1, 3) := by decide +kernel
theorem dX1_build_47 : decode cX1_build 47 = .ok (.goto (-30), 3) := by decide +kernel
theorem dX1_build_50 : decode cX1_build 50 = .ok (.aload_n 0, 1) := by decide +kernel
theorem dX1_build_51 : decode cX1_build 51 = .ok (.iconst 0, 1) := by decide +kernel
theorem dX1_build_52 : decode cX1_build 52 = .ok (.iload_n 1, 1) := by decide +kernel
theorem dX1_build_53 : decode cX1_build 53 = .ok (.iconst 0, 1) := by decide +kernel
theorem dX1_build_54 : decode cX1_build 54 = .ok (.invokevirtual 97, 3) := by decide +kernel
theorem dX1_build_57 : decode cX1_build 57 = .ok (.aload_n 0, 1) := by decide +kernel
theorem dX1_build_58 : decode cX1_build 58 = .ok (.getfield 66, 3) := by decide +kernel
theorem dX1_build_61 : decode cX1_build 61 = .ok (.ireturn, 1) := by decide +kernel
set_option maxRecDepth 20000 in
theorem ggX1_block_X1_hasBlock : GoodIn wsX1_block wsX1_hasBlock := goodIn_r _ [9, 10, 15, 16, 17, 18, 19, 20, 21, 22, 23, 24, 25, 26, 27, 28, 29, 30, 31, 32] (by decide +kernel) (by decide +kernel)
set_option maxRecDepth 20000 in
theorem gX1_block_X1_hasBlock : GoodIn wsX1_block (wsV RX1 101 RX1 yX1_hasBlock wsX1_hasBlock) := goodIn_app (goodIn_of _ (by decide +kernel)) ggX1_block_X1_hasBlock
set_option maxRecDepth 20000 in
theorem ggX1_block_X1_isParted : GoodIn wsX1_block wsX1_isParted := goodIn_r _ [14, 3, 15, 16, 17, 18, 19, 20, 21, 22, 23, 24, 25, 26, 27, 28, 29, 30, 31, 32] (by decide +kernel) (by decide +kernel)
set_option maxRecDepth 20000 in
theorem gX1_block_X1_isParted : GoodIn wsX1_block (wsV RX1 104 RX1 yX1_isParted wsX1_isParted) := goodIn_app (goodIn_of _ (by decide +kernel)) ggX1_block_X1_isParted
theorem dX1_block_0 : decode cX1_block 0 = .ok (.aload_n 0, 1) := by decide +kernel
theorem dX1_block_1 : decode cX1_block 1 = .ok (.iload_n 1, 1) := by decide +kernel
theorem dX1_block_2 : decode cX1_block 2 = .ok (.invokevirtual 101, 3) := by decide +kernel
theorem dX1_block_5 : decode cX1_block 5 = .ok (.ifCond .ne 5, 3) := by decide +kernel
theorem dX1_block_8 : decode cX1_block 8 = .ok (.iconst (-1), 1) := by decide +kernel
theorem dX1_block_9 : decode cX1_block 9 = .ok (.ireturn, 1) := by decide +kernel
theorem dX1_block_10 : decode cX1_block 10 = .ok (.iload_n 2, 1) := by decide +kernel
theorem dX1_block_11 : decode cX1_block 11 = .ok (.tableswitch 71 0 3 #[29, 43, 57, 64], 29) := by decide +kernel
theorem dX1_block_40 : decode cX1_block 40 = .ok (.aload_n 0, 1) := by decide +kernel
theorem dX1_block_41 : decode cX1_block 41 = .ok (.iload_n 1, 1) := by decide +kernel
theorem dX1_block_42 : decode cX1_block 42 = .ok (.invokevirtual 104, 3) := by decide +kernel
theorem dX1_block_45 : decode cX1_block 45 = .ok (.ifCond .eq 7, 3) := by decide +kernel
theorem dX1_block_48 : decode cX1_block 48 = .ok (.iconst 1, 1) := by decide +kernel
theorem dX1_block_49 : decode cX1_block 49 = .ok (.goto 4, 3) := by decide +kernel
theorem dX1_block_52 : decode cX1_block 52 = .ok (.iconst 0, 1) := by decide +kernel
theorem dX1_block_53 : decode cX1_block 53 = .ok (.ireturn, 1) := by decide +kernel
theorem dX1_block_54 : decode cX1_block 54 = .ok (.aload_n 0, 1) := by decide +kernel
theorem dX1_block_55 : decode cX1_block 55 = .ok (.getfield 35, 3) := by decide +kernel
theorem dX1_block_58 : decode cX1_block 58 = .ok (.iload_n 1, 1) := by decide +kernel
theorem dX1_block_59 : decode cX1_block 59 = .ok (.iaload, 1) := by decide +kernel
theorem dX1_block_60 : decode cX1_block 60 = .ok (.aload_n 0, 1) := by decide +kernel
theorem dX1_block_61 : decode cX1_block 61 = .ok (.getfield 32, 3) := by decide +kernel
theorem dX1_block_64 : decode cX1_block 64 = .ok (.iload_n 1, 1) := by decide +kernel
theorem dX1_block_65 : decode cX1_block 65 = .ok (.iaload, 1) := by decide +kernel
theorem dX1_block_66 : decode cX1_block 66 = .ok (.isub, 1) := by decide +kernel
theorem dX1_block_67 : decode cX1_block 67 = .ok (.ireturn, 1) := by decide +kernel
theorem dX1_block_68 : decode cX1_block 68 = .ok (.aload_n 0, 1) := by decide +kernel
theorem dX1_block_69 : decode cX1_block 69 = .ok (.getfield 38, 3) := by decide +kernel
theorem dX1_block_72 : decode cX1_block 72 = .ok (.iload_n 1, 1) := by decide +kernel
theorem dX1_block_73 : decode cX1_block 73 = .ok (.iaload, 1) := by decide +kernel
theorem dX1_block_74 : decode cX1_block 74 = .ok (.ireturn, 1) := by decide +kernel
theorem dX1_block_75 : decode cX1_block 75 = .ok (.aload_n 0, 1) := by decide +kernel
theorem dX1_block_76 : decode cX1_block 76 = .ok (.getfield 41, 3) := by decide +kernel
theorem dX1_block_79 : decode cX1_block 79 = .ok (.iload_n 1, 1) := by decide +kernel
theorem dX1_block_80 : decode cX1_block 80 = .ok (.iaload, 1) := by decide +kernel
theorem dX1_block_81 : decode cX1_block 81 = .ok (.ireturn, 1) := by decide +kernel
theorem dX1_block_82 : decode cX1_block 82 = .ok (.bipush (-2), 2) := by decide +kernel
theorem dX1_block_84 : decode cX1_block 84 = .ok (.ireturn, 1) := by decide +kernel
set_option maxRecDepth 20000 in
theorem ggX1_bound_X1_hasBlock : GoodIn wsX1_bound wsX1_hasBlock := goodIn_r _ [7, 8, 19, 20, 21, 22, 23, 24, 25, 26, 27, 28, 29, 30, 31, 32, 33, 34, 35, 36] (by decide +kernel) (by decide +kernel)
set_option maxRecDepth 20000 in
theorem gX1_bound_X1_hasBlock : GoodIn wsX1_bound (wsV RX1 101 RX1 yX1_hasBlock wsX1_hasBlock) := goodIn_app (goodIn_of _ (by decide +kernel)) ggX1_bound_X1_hasBlock
set_option maxRecDepth 20000 in
theorem ggX1_bound_X1_hasEnd : GoodIn wsX1_bound wsX1_hasEnd := goodIn_r _ [12, 13, 19, 20, 21, 22, 23, 24, 25, 26, 27, 28, 29, 30, 31, 32, 33, 34, 35, 36] (by decide +kernel) (by decide +kernel)
set_option maxRecDepth 20000 in
theorem gX1_bound_X1_hasEnd : GoodIn wsX1_bound (wsV RX1 87 RX1 yX1_hasEnd wsX1_hasEnd) := goodIn_app (goodIn_of _ (by decide +kernel)) ggX1_bound_X1_hasEnd
set_option maxRecDepth 20000 in
theorem ggX1_bound_X0_at : GoodIn wsX1_bound wsX0_at := goodIn_r _ [17, 18, 37] (by decide +kernel) (by decide +kernel)
set_option maxRecDepth 20000 in
theorem gX1_bound_X0_at_n93 : GoodIn wsX1_bound (wsX0_at) := ggX1_bound_X0_at
theorem dX1_bound_0 : decode cX1_bound 0 = .ok (.aload_n 0, 1) := by decide +kernel
theorem dX1_bound_1 : decode cX1_bound 1 = .ok (.iload_n 1, 1) := by decide +kernel
theorem dX1_bound_2 : decode cX1_bound 2 = .ok (.invokevirtual 101, 3) := by decide +kernel
theorem dX1_bound_5 : decode cX1_bound 5 = .ok (.ifCond .eq 12, 3) := by decide +kernel
theorem dX1_bound_8 : decode cX1_bound 8 = .ok (.aload_n 0, 1) := by decide +kernel
theorem dX1_bound_9 : decode cX1_bound 9 = .ok (.iload_n 2, 1) := by decide +kernel
theorem dX1_bound_10 : decode cX1_bound 10 = .ok (.iload_n 3, 1) := by decide +kernel
theorem dX1_bound_11 : decode cX1_bound 11 = .ok (.invokevirtual 87, 3) := by decide +kernel
theorem dX1_bound_14 : decode cX1_bound 14 = .ok (.ifCond .ne 7, 3) := by decide +kernel
theorem dX1_bound_17 : decode cX1_bound 17 = .ok (.ldc2_w 91, 3) := by decide +kernel
theorem dX1_bound_20 : decode cX1_bound 20 = .ok (.lreturn, 1) := by decide +kernel
theorem dX1_bound_21 : decode cX1_bound 21 = .ok (.aload_n 0, 1) := by decide +kernel
theorem dX1_bound_22 : decode cX1_bound 22 = .ok (.getfield 44, 3) := by decide +kernel
theorem dX1_bound_25 : decode cX1_bound 25 = .ok (.iload_n 1, 1) := by decide +kernel
theorem dX1_bound_26 : decode cX1_bound 26 = .ok (.iload_n 2, 1) := by decide +kernel
theorem dX1_bound_27 : decode cX1_bound 27 = .ok (.iload_n 3, 1) := by decide +kernel
theorem dX1_bound_28 : decode cX1_bound 28 = .ok (.invokevirtual 93, 3) := by decide +kernel
theorem dX1_bound_31 : decode cX1_bound 31 = .ok (.i2l, 1) := by decide +kernel
theorem dX1_bound_32 : decode cX1_bound 32 = .ok (.lreturn, 1) := by decide +kernel
set_option maxRecDepth 20000 in
theorem ggX1_range_X1_isBox : GoodIn wsX1_range wsX1_isBox := goodIn_r _ [9, 10, 11, 12, 8, 13, 14, 15, 79, 80, 81, 82, 83, 84, 85, 86, 87, 88, 89, 90, 91, 92, 93, 94, 95, 96] (by decide +kernel) (by decide +kernel)
set_option maxRecDepth 20000 in
theorem gX1_range_X1_isBox : GoodIn wsX1_range (wsV RX1 75 RX1 yX1_isBox wsX1_isBox) := goodIn_app (goodIn_of _ (by decide +kernel)) ggX1_range_X1_isBox
set_option maxRecDepth 20000 in
theorem ggX1_range_X0_put : GoodIn wsX1_range wsX0_put := goodIn_r _ [19, 20, 21, 22, 17, 23, 24, 97] (by decide +kernel) (by decide +kernel)
set_option maxRecDepth 20000 in
theorem gX1_range_X0_put_n79 : GoodIn wsX1_range (wsX0_put) := ggX1_range_X0_put
set_option maxRecDepth 20000 in
theorem ggX1_range_X1_forgetAsked : GoodIn wsX1_range wsX1_forgetAsked := goodIn_r _ [28, 29, 4, 30, 79, 80, 81, 82, 83, 84, 85, 86, 87, 88, 89, 90, 91, 92, 93, 94, 95, 96] (by decide +kernel) (by decide +kernel)
set_option maxRecDepth 20000 in
theorem gX1_range_X1_forgetAsked : GoodIn wsX1_range (wsV RX1 72 RX1 yX1_forgetAsked wsX1_forgetAsked) := goodIn_app (goodIn_of _ (by decide +kernel)) ggX1_range_X1_forgetAsked
set_option maxRecDepth 20000 in
theorem ggX1_range_X1_askBlocks : GoodIn wsX1_range wsX1_askBlocks := goodIn_r _ [34, 35, 36, 30, 37, 38, 39, 8, 40, 1, 41, 10, 42, 17, 43, 44, 45, 46, 47, 24, 48, 49, 50, 51, 52, 53, 54, 55, 56, 57, 58, 59, 60, 29, 4, 61, 62, 63, 64, 65, 66, 67, 68, 69, 70, 71, 72, 73, 74, 75, 76, 77, 78, 79, 80, 81, 82, 83, 84, 85, 86, 87, 88, 89, 90, 91, 92, 93, 94, 95, 96, 97] (by decide +kernel) (by decide +kernel)
set_option maxRecDepth 20000 in
theorem gX1_range_X1_askBlocks : GoodIn wsX1_range (wsV RX1 107 RX1 yX1_askBlocks wsX1_askBlocks) := goodIn_app (goodIn_of _ (by decide +kernel)) ggX1_range_X1_askBlocks
set_option maxRecDepth 20000 in
theorem ggX1_range_X1_askThing : GoodIn wsX1_range wsX1_askThing := goodIn_r _ [73, 55, 74, 75, 76, 8, 77, 78, 1, 10, 48, 17, 49, 44, 45, 46, 47, 24, 42, 43, 57, 58, 59, 60, 29, 4, 79, 80, 81, 82, 83, 84, 85, 86, 87, 88, 89, 90, 91, 92, 93, 94, 95, 96, 97] (by decide +kernel) (by decide +kernel)
set_option maxRecDepth 20000 in
theorem gX1_range_X1_askThing : GoodIn wsX1_range (wsV RX1 110 RX1 yX1_askThing wsX1_askThing) := goodIn_app (goodIn_of _ (by decide +kernel)) ggX1_range_X1_askThing
theorem dX1_range_0 : decode cX1_range 0 = .ok (.iload_n 1, 1) := by decide +kernel
theorem dX1_range_1 : decode cX1_range 1 = .ok (.ifCond .lt 25, 3) := by decide +kernel
theorem dX1_range_4 : decode cX1_range 4 = .ok (.iload_n 1, 1) := by decide +kernel
theorem dX1_range_5 : decode cX1_range 5 = .ok (.iconst 3, 1) := by decide +kernel
theorem dX1_range_6 : decode cX1_range 6 = .ok (.if_icmp .gt 20, 3) := by decide +kernel
theorem dX1_range_9 : decode cX1_range 9 = .ok (.aload_n 0, 1) := by decide +kernel
theorem dX1_range_10 : decode cX1_range 10 = .ok (.iload_n 2, 1) := by decide +kernel
theorem dX1_range_11 : decode cX1_range 11 = .ok (.iload_n 3, 1) := by decide +kernel
theorem dX1_range_12 : decode cX1_range 12 = .ok (.iload 4, 2) := by decide +kernel
theorem dX1_range_14 : decode cX1_range 14 = .ok (.iload 5, 2) := by decide +kernel
theorem dX1_range_16 : decode cX1_range 16 = .ok (.iload 6, 2) := by decide +kernel
theorem dX1_range_18 : decode cX1_range 18 = .ok (.iload 7, 2) := by decide +kernel
theorem dX1_range_20 : decode cX1_range 20 = .ok (.invokevirtual 75, 3) := by decide +kernel
theorem dX1_range_23 : decode cX1_range 23 = .ok (.ifCond .ne 6, 3) := by decide +kernel
theorem dX1_range_26 : decode cX1_range 26 = .ok (.bipush (-2), 2) := by decide +kernel
theorem dX1_range_28 : decode cX1_range 28 = .ok (.ireturn, 1) := by decide +kernel
theorem dX1_range_29 : decode cX1_range 29 = .ok (.aload_n 0, 1) := by decide +kernel
theorem dX1_range_30 : decode cX1_range 30 = .ok (.getfield 47, 3) := by decide +kernel
theorem dX1_range_33 : decode cX1_range 33 = .ok (.iconst 0, 1) := by decide +kernel
theorem dX1_range_34 : decode cX1_range 34 = .ok (.iload_n 2, 1) := by decide +kernel
theorem dX1_range_35 : decode cX1_range 35 = .ok (.iload_n 3, 1) := by decide +kernel
theorem dX1_range_36 : decode cX1_range 36 = .ok (.iload 4, 2) := by decide +kernel
theorem dX1_range_38 : decode cX1_range 38 = .ok (.iload 5, 2) := by decide +kernel
theorem dX1_range_40 : decode cX1_range 40 = .ok (.iload 6, 2) := by decide +kernel
theorem dX1_range_42 : decode cX1_range 42 = .ok (.iload 7, 2) := by decide +kernel
theorem dX1_range_44 : decode cX1_range 44 = .ok (.invokevirtual 79, 3) := by decide +kernel
theorem dX1_range_47 : decode cX1_range 47 = .ok (.aload_n 0, 1) := by decide +kernel
theorem dX1_range_48 : decode cX1_range 48 = .ok (.invokevirtual 72, 3) := by decide +kernel
theorem dX1_range_51 : decode cX1_range 51 = .ok (.aload_n 0, 1) := by decide +kernel
theorem dX1_range_52 : decode cX1_range 52 = .ok (.iload_n 1, 1) := by decide +kernel
theorem dX1_range_53 : decode cX1_range 53 = .ok (.invokevirtual 107, 3) := by decide +kernel
theorem dX1_range_56 : decode cX1_range 56 = .ok (.aload_n 0, 1) := by decide +kernel
theorem dX1_range_57 : decode cX1_range 57 = .ok (.getfield 69, 3) := by decide +kernel
theorem dX1_range_60 : decode cX1_range 60 = .ok (.istore 8, 2) := by decide +kernel
theorem dX1_range_62 : decode cX1_range 62 = .ok (.iload 8, 2) := by decide +kernel
theorem dX1_range_64 : decode cX1_range 64 = .ok (.aload_n 0, 1) := by decide +kernel
theorem dX1_range_65 : decode cX1_range 65 = .ok (.getfield 60, 3) := by decide +kernel
theorem dX1_range_68 : decode cX1_range 68 = .ok (.if_icmp .ge 16, 3) := by decide +kernel
theorem dX1_range_71 : decode cX1_range 71 = .ok (.aload_n 0, 1) := by decide +kernel
theorem dX1_range_72 : decode cX1_range 72 = .ok (.iload 8, 2) := by decide +kernel
theorem dX1_range_74 : decode cX1_range 74 = .ok (.iload_n 1, 1) := by decide +kernel
theorem dX1_range_75 : decode cX1_range 75 = .ok (.invokevirtual 110, 3) := by decide +kernel
theorem dX1_range_78 : decode cX1_range 78 = .ok (.iinc 8 1, 3) := by decide +kernel
theorem dX1_range_81 : decode cX1_range 81 = .ok (.goto (-19), 3) := by decide +kernel
theorem dX1_range_84 : decode cX1_range 84 = .ok (.aload_n 0, 1) := by decide +kernel
theorem dX1_range_85 : decode cX1_range 85 = .ok (.getfield 114, 3) := by decide +kernel
theorem dX1_range_88 : decode cX1_range 88 = .ok (.ireturn, 1) := by decide +kernel
theorem dX1_found_0 : decode cX1_found 0 = .ok (.iload_n 1, 1) := by decide +kernel
theorem dX1_found_1 : decode cX1_found 1 = .ok (.ifCond .lt 11, 3) := by decide +kernel
theorem dX1_found_4 : decode cX1_found 4 = .ok (.iload_n 1, 1) := by decide +kernel
theorem dX1_found_5 : decode cX1_found 5 = .ok (.aload_n 0, 1) := by decide +kernel
theorem dX1_found_6 : decode cX1_found 6 = .ok (.getfield 114, 3) := by decide +kernel
theorem dX1_found_9 : decode cX1_found 9 = .ok (.if_icmp .lt 5, 3) := by decide +kernel
theorem dX1_found_12 : decode cX1_found 12 = .ok (.iconst (-1), 1) := by decide +kernel
theorem dX1_found_13 : decode cX1_found 13 = .ok (.ireturn, 1) := by decide +kernel
theorem dX1_found_14 : decode cX1_found 14 = .ok (.iconst 0, 1) := by decide +kernel
theorem dX1_found_15 : decode cX1_found 15 = .ok (.istore_n 2, 1) := by decide +kernel
theorem dX1_found_16 : decode cX1_found 16 = .ok (.iconst 0, 1) := by decide +kernel
theorem dX1_found_17 : decode cX1_found 17 = .ok (.istore_n 3, 1) := by decide +kernel
theorem dX1_found_18 : decode cX1_found 18 = .ok (.iload_n 3, 1) := by decide +kernel
theorem dX1_found_19 : decode cX1_found 19 = .ok (.bipush 64, 2) := by decide +kernel
theorem dX1_found_21 : decode cX1_found 21 = .ok (.if_icmp .ge 28, 3) := by decide +kernel
theorem dX1_found_24 : decode cX1_found 24 = .ok (.aload_n 0, 1) := by decide +kernel
theorem dX1_found_25 : decode cX1_found 25 = .ok (.getfield 50, 3) := by decide +kernel
theorem dX1_found_28 : decode cX1_found 28 = .ok (.iload_n 3, 1) := by decide +kernel
theorem dX1_found_29 : decode cX1_found 29 = .ok (.baload, 1) := by decide +kernel
theorem dX1_found_30 : decode cX1_found 30 = .ok (.ifCond .eq 13, 3) := by decide +kernel
theorem dX1_found_33 : decode cX1_found 33 = .ok (.iload_n 2, 1) := by decide +kernel
theorem dX1_found_34 : decode cX1_found 34 = .ok (.iload_n 1, 1) := by decide +kernel
theorem dX1_found_35 : decode cX1_found 35 = .ok (.if_icmp .ne 5, 3) := by decide +kernel
theorem dX1_found_38 : decode cX1_found 38 = .ok (.iload_n 3, 1) := by decide +kernel
theorem dX1_found_39 : decode cX1_found 39 = .ok (.ireturn, 1) := by decide +kernel
theorem dX1_found_40 : decode cX1_found 40 = .ok (.iinc 2 1, 3) := by decide +kernel
theorem dX1_found_43 : decode cX1_found 43 = .ok (.iinc 3 1, 3) := by decide +kernel
theorem dX1_found_46 : decode cX1_found 46 = .ok (.goto (-28), 3) := by decide +kernel
theorem dX1_found_49 : decode cX1_found 49 = .ok (.iconst (-1), 1) := by decide +kernel
theorem dX1_found_50 : decode cX1_found 50 = .ok (.ireturn, 1) := by decide +kernel
theorem dX1_told_0 : decode cX1_told 0 = .ok (.iload_n 1, 1) := by decide +kernel
theorem dX1_told_1 : decode cX1_told 1 = .ok (.ifCond .lt 8, 3) := by decide +kernel
theorem dX1_told_4 : decode cX1_told 4 = .ok (.iload_n 1, 1) := by decide +kernel
theorem dX1_told_5 : decode cX1_told 5 = .ok (.iconst 3, 1) := by decide +kernel
theorem dX1_told_6 : decode cX1_told 6 = .ok (.if_icmp .lt 6, 3) := by decide +kernel
theorem dX1_told_9 : decode cX1_told 9 = .ok (.bipush (-2), 2) := by decide +kernel
theorem dX1_told_11 : decode cX1_told 11 = .ok (.ireturn, 1) := by decide +kernel
theorem dX1_told_12 : decode cX1_told 12 = .ok (.aload_n 0, 1) := by decide +kernel
theorem dX1_told_13 : decode cX1_told 13 = .ok (.getfield 53, 3) := by decide +kernel
theorem dX1_told_16 : decode cX1_told 16 = .ok (.iload_n 1, 1) := by decide +kernel
theorem dX1_told_17 : decode cX1_told 17 = .ok (.iaload, 1) := by decide +kernel
theorem dX1_told_18 : decode cX1_told 18 = .ok (.ireturn, 1) := by decide +kernel
set_option maxRecDepth 20000 in
theorem ggX1_nearest_X1_isPlace : GoodIn wsX1_nearest wsX1_isPlace := goodIn_r _ [11, 12, 13, 14, 10, 15, 5, 16, 17, 18, 19, 20, 46, 47, 48, 49, 50, 51, 52, 53, 54, 55, 56, 57, 58, 59, 60, 61, 62, 63] (by decide +kernel) (by decide +kernel)
set_option maxRecDepth 20000 in
theorem gX1_nearest_X1_isPlace : GoodIn wsX1_nearest (wsV RX1 117 RX1 yX1_isPlace wsX1_isPlace) := goodIn_app (goodIn_of _ (by decide +kernel)) ggX1_nearest_X1_isPlace
set_option maxRecDepth 20000 in
theorem ggX1_nearest_X0_squareTo : GoodIn wsX1_nearest wsX0_squareTo := goodIn_r _ [24, 25, 26, 27, 22, 28, 29, 30, 31, 32, 33, 34, 35, 36, 37, 64] (by decide +kernel) (by decide +kernel)
set_option maxRecDepth 20000 in
theorem gX1_nearest_X0_squareTo_n121 : GoodIn wsX1_nearest (wsX0_squareTo) := ggX1_nearest_X0_squareTo
set_option maxRecDepth 20000 in
theorem ggX1_nearest_X1_nearerThan : GoodIn wsX1_nearest wsX1_nearerThan := goodIn_r _ [41, 2, 6, 42, 43, 44, 10, 45, 3, 46, 47, 48, 49, 50, 51, 52, 53, 54, 55, 56, 57, 58, 59, 60, 61, 62, 63] (by decide +kernel) (by decide +kernel)
set_option maxRecDepth 20000 in
theorem gX1_nearest_X1_nearerThan : GoodIn wsX1_nearest (wsV RX1 125 RX1 yX1_nearerThan wsX1_nearerThan) := goodIn_app (goodIn_of _ (by decide +kernel)) ggX1_nearest_X1_nearerThan
theorem dX1_nearest_0 : decode cX1_nearest 0 = .ok (.iload 4, 2) := by decide +kernel
theorem dX1_nearest_2 : decode cX1_nearest 2 = .ok (.ifCond .lt 12, 3) := by decide +kernel
theorem dX1_nearest_5 : decode cX1_nearest 5 = .ok (.iload 4, 2) := by decide +kernel
theorem dX1_nearest_7 : decode cX1_nearest 7 = .ok (.aload_n 0, 1) := by decide +kernel
theorem dX1_nearest_8 : decode cX1_nearest 8 = .ok (.getfield 63, 3) := by decide +kernel
theorem dX1_nearest_11 : decode cX1_nearest 11 = .ok (.if_icmp .lt 5, 3) := by decide +kernel
theorem dX1_nearest_14 : decode cX1_nearest 14 = .ok (.iconst (-1), 1) := by decide +kernel
theorem dX1_nearest_15 : decode cX1_nearest 15 = .ok (.ireturn, 1) := by decide +kernel
theorem dX1_nearest_16 : decode cX1_nearest 16 = .ok (.aload_n 0, 1) := by decide +kernel
theorem dX1_nearest_17 : decode cX1_nearest 17 = .ok (.iload_n 1, 1) := by decide +kernel
theorem dX1_nearest_18 : decode cX1_nearest 18 = .ok (.iload_n 2, 1) := by decide +kernel
theorem dX1_nearest_19 : decode cX1_nearest 19 = .ok (.iload_n 3, 1) := by decide +kernel
theorem dX1_nearest_20 : decode cX1_nearest 20 = .ok (.invokevirtual 117, 3) := by decide +kernel
theorem dX1_nearest_23 : decode cX1_nearest 23 = .ok (.ifCond .ne 6, 3) := by decide +kernel
theorem dX1_nearest_26 : decode cX1_nearest 26 = .ok (.bipush (-2), 2) := by decide +kernel
theorem dX1_nearest_28 : decode cX1_nearest 28 = .ok (.ireturn, 1) := by decide +kernel
theorem dX1_nearest_29 : decode cX1_nearest 29 = .ok (.iconst 0, 1) := by decide +kernel
theorem dX1_nearest_30 : decode cX1_nearest 30 = .ok (.istore 5, 2) := by decide +kernel
theorem dX1_nearest_32 : decode cX1_nearest 32 = .ok (.iload 5, 2) := by decide +kernel
theorem dX1_nearest_34 : decode cX1_nearest 34 = .ok (.aload_n 0, 1) := by decide +kernel
theorem dX1_nearest_35 : decode cX1_nearest 35 = .ok (.getfield 60, 3) := by decide +kernel
theorem dX1_nearest_38 : decode cX1_nearest 38 = .ok (.if_icmp .ge 32, 3) := by decide +kernel
theorem dX1_nearest_41 : decode cX1_nearest 41 = .ok (.aload_n 0, 1) := by decide +kernel
theorem dX1_nearest_42 : decode cX1_nearest 42 = .ok (.getfield 56, 3) := by decide +kernel
theorem dX1_nearest_45 : decode cX1_nearest 45 = .ok (.iload 5, 2) := by decide +kernel
theorem dX1_nearest_47 : decode cX1_nearest 47 = .ok (.aload_n 0, 1) := by decide +kernel
theorem dX1_nearest_48 : decode cX1_nearest 48 = .ok (.getfield 24, 3) := by decide +kernel
theorem dX1_nearest_51 : decode cX1_nearest 51 = .ok (.iload 5, 2) := by decide +kernel
theorem dX1_nearest_53 : decode cX1_nearest 53 = .ok (.aload_n 0, 1) := by decide +kernel
theorem dX1_nearest_54 : decode cX1_nearest 54 = .ok (.getfield 9, 3) := by decide +kernel
theorem dX1_nearest_57 : decode cX1_nearest 57 = .ok (.iload_n 1, 1) := by decide +kernel
theorem dX1_nearest_58 : decode cX1_nearest 58 = .ok (.iload_n 2, 1) := by decide +kernel
theorem dX1_nearest_59 : decode cX1_nearest 59 = .ok (.iload_n 3, 1) := by decide +kernel
theorem dX1_nearest_60 : decode cX1_nearest 60 = .ok (.invokevirtual 121, 3) := by decide +kernel
theorem dX1_nearest_63 : decode cX1_nearest 63 = .ok (.lastore, 1) := by decide +kernel
theorem dX1_nearest_64 : decode cX1_nearest 64 = .ok (.iinc 5 1, 3) := by decide +kernel
theorem dX1_nearest_67 : decode cX1_nearest 67 = .ok (.goto (-35), 3) := by decide +kernel
theorem dX1_nearest_70 : decode cX1_nearest 70 = .ok (.iconst 0, 1) := by decide +kernel
theorem dX1_nearest_71 : decode cX1_nearest 71 = .ok (.istore 5, 2) := by decide +kernel
theorem dX1_nearest_73 : decode cX1_nearest 73 = .ok (.iload 5, 2) := by decide +kernel
theorem dX1_nearest_75 : decode cX1_nearest 75 = .ok (.aload_n 0, 1) := by decide +kernel
theorem dX1_nearest_76 : decode cX1_nearest 76 = .ok (.getfield 60, 3) := by decide +kernel
theorem dX1_nearest_79 : decode cX1_nearest 79 = .ok (.if_icmp .ge 33, 3) := by decide +kernel
theorem dX1_nearest_82 : decode cX1_nearest 82 = .ok (.aload_n 0, 1) := by decide +kernel
theorem dX1_nearest_83 : decode cX1_nearest 83 = .ok (.getfield 15, 3) := by decide +kernel
theorem dX1_nearest_86 : decode cX1_nearest 86 = .ok (.iload 5, 2) := by decide +kernel
theorem dX1_nearest_88 : decode cX1_nearest 88 = .ok (.baload, 1) := by decide +kernel
theorem dX1_nearest_89 : decode cX1_nearest 89 = .ok (.ifCond .eq 17, 3) := by decide +kernel
theorem dX1_nearest_92 : decode cX1_nearest 92 = .ok (.aload_n 0, 1) := by decide +kernel
theorem dX1_nearest_93 : decode cX1_nearest 93 = .ok (.iload 5, 2) := by decide +kernel
theorem dX1_nearest_95 : decode cX1_nearest 95 = .ok (.invokevirtual 125, 3) := by decide +kernel
theorem dX1_nearest_98 : decode cX1_nearest 98 = .ok (.iload 4, 2) := by decide +kernel
theorem dX1_nearest_100 : decode cX1_nearest 100 = .ok (.if_icmp .ne 6, 3) := by decide +kernel
theorem dX1_nearest_103 : decode cX1_nearest 103 = .ok (.iload 5, 2) := by decide +kernel
theorem dX1_nearest_105 : decode cX1_nearest 105 = .ok (.ireturn, 1) := by decide +kernel
theorem dX1_nearest_106 : decode cX1_nearest 106 = .ok (.iinc 5 1, 3) := by decide +kernel
theorem dX1_nearest_109 : decode cX1_nearest 109 = .ok (.goto (-36), 3) := by decide +kernel
theorem dX1_nearest_112 : decode cX1_nearest 112 = .ok (.iconst (-1), 1) := by decide +kernel
theorem dX1_nearest_113 : decode cX1_nearest 113 = .ok (.ireturn, 1) := by decide +kernel
set_option maxRecDepth 20000 in
theorem ggX1_distance_X1_hasThing : GoodIn wsX1_distance wsX1_hasThing := goodIn_r _ [8, 9, 10, 41, 42, 43, 44, 45, 46, 47, 48, 49, 50, 51, 52, 53, 54, 55, 56, 57, 58] (by decide +kernel) (by decide +kernel)
set_option maxRecDepth 20000 in
theorem gX1_distance_X1_hasThing : GoodIn wsX1_distance (wsV RX1 83 RX1 yX1_hasThing wsX1_hasThing) := goodIn_app (goodIn_of _ (by decide +kernel)) ggX1_distance_X1_hasThing
set_option maxRecDepth 20000 in
theorem ggX1_distance_X1_isPlace : GoodIn wsX1_distance wsX1_isPlace := goodIn_r _ [14, 15, 16, 17, 7, 18, 3, 19, 20, 21, 22, 23, 41, 42, 43, 44, 45, 46, 47, 48, 49, 50, 51, 52, 53, 54, 55, 56, 57, 58] (by decide +kernel) (by decide +kernel)
set_option maxRecDepth 20000 in
theorem gX1_distance_X1_isPlace : GoodIn wsX1_distance (wsV RX1 117 RX1 yX1_isPlace wsX1_isPlace) := goodIn_app (goodIn_of _ (by decide +kernel)) ggX1_distance_X1_isPlace
set_option maxRecDepth 20000 in
theorem ggX1_distance_X0_squareTo : GoodIn wsX1_distance wsX0_squareTo := goodIn_r _ [27, 28, 29, 30, 25, 31, 32, 33, 34, 35, 36, 37, 38, 39, 40, 59] (by decide +kernel) (by decide +kernel)
set_option maxRecDepth 20000 in
theorem gX1_distance_X0_squareTo_n121 : GoodIn wsX1_distance (wsX0_squareTo) := ggX1_distance_X0_squareTo
theorem dX1_distance_0 : decode cX1_distance 0 = .ok (.aload_n 0, 1) := by decide +kernel
theorem dX1_distance_1 : decode cX1_distance 1 = .ok (.iload_n 1, 1) := by decide +kernel
theorem dX1_distance_2 : decode cX1_distance 2 = .ok (.invokevirtual 83, 3) := by decide +kernel
theorem dX1_distance_5 : decode cX1_distance 5 = .ok (.ifCond .eq 14, 3) := by decide +kernel
theorem dX1_distance_8 : decode cX1_distance 8 = .ok (.aload_n 0, 1) := by decide +kernel
theorem dX1_distance_9 : decode cX1_distance 9 = .ok (.iload_n 2, 1) := by decide +kernel
theorem dX1_distance_10 : decode cX1_distance 10 = .ok (.iload_n 3, 1) := by decide +kernel
theorem dX1_distance_11 : decode cX1_distance 11 = .ok (.iload 4, 2) := by decide +kernel
theorem dX1_distance_13 : decode cX1_distance 13 = .ok (.invokevirtual 117, 3) := by decide +kernel
theorem dX1_distance_16 : decode cX1_distance 16 = .ok (.ifCond .ne 7, 3) := by decide +kernel
theorem dX1_distance_19 : decode cX1_distance 19 = .ok (.ldc2_w 91, 3) := by decide +kernel
theorem dX1_distance_22 : decode cX1_distance 22 = .ok (.lreturn, 1) := by decide +kernel
theorem dX1_distance_23 : decode cX1_distance 23 = .ok (.aload_n 0, 1) := by decide +kernel
theorem dX1_distance_24 : decode cX1_distance 24 = .ok (.getfield 24, 3) := by decide +kernel
theorem dX1_distance_27 : decode cX1_distance 27 = .ok (.iload_n 1, 1) := by decide +kernel
theorem dX1_distance_28 : decode cX1_distance 28 = .ok (.aload_n 0, 1) := by decide +kernel
theorem dX1_distance_29 : decode cX1_distance 29 = .ok (.getfield 9, 3) := by decide +kernel
theorem dX1_distance_32 : decode cX1_distance 32 = .ok (.iload_n 2, 1) := by decide +kernel
theorem dX1_distance_33 : decode cX1_distance 33 = .ok (.iload_n 3, 1) := by decide +kernel
theorem dX1_distance_34 : decode cX1_distance 34 = .ok (.iload 4, 2) := by decide +kernel
theorem dX1_distance_36 : decode cX1_distance 36 = .ok (.invokevirtual 121, 3) := by decide +kernel
theorem dX1_distance_39 : decode cX1_distance 39 = .ok (.lreturn, 1) := by decide +kernel
set_option maxRecDepth 20000 in
theorem ggX1_pairs_X0_meet : GoodIn wsX1_pairs wsX0_meet := goodIn_r _ [7, 8, 9, 10, 6, 11, 12, 31] (by decide +kernel) (by decide +kernel)
set_option maxRecDepth 20000 in
theorem gX1_pairs_X0_meet_n129 : GoodIn wsX1_pairs (wsX0_meet) := ggX1_pairs_X0_meet
theorem dX1_pairs_0 : decode cX1_pairs 0 = .ok (.iconst 0, 1) := by decide +kernel
theorem dX1_pairs_1 : decode cX1_pairs 1 = .ok (.istore_n 1, 1) := by decide +kernel
theorem dX1_pairs_2 : decode cX1_pairs 2 = .ok (.iconst 0, 1) := by decide +kernel
theorem dX1_pairs_3 : decode cX1_pairs 3 = .ok (.istore_n 2, 1) := by decide +kernel
theorem dX1_pairs_4 : decode cX1_pairs 4 = .ok (.iload_n 2, 1) := by decide +kernel
theorem dX1_pairs_5 : decode cX1_pairs 5 = .ok (.aload_n 0, 1) := by decide +kernel
theorem dX1_pairs_6 : decode cX1_pairs 6 = .ok (.getfield 60, 3) := by decide +kernel
theorem dX1_pairs_9 : decode cX1_pairs 9 = .ok (.if_icmp .ge 68, 3) := by decide +kernel
theorem dX1_pairs_12 : decode cX1_pairs 12 = .ok (.iload_n 2, 1) := by decide +kernel
theorem dX1_pairs_13 : decode cX1_pairs 13 = .ok (.iconst 1, 1) := by decide +kernel
theorem dX1_pairs_14 : decode cX1_pairs 14 = .ok (.iadd, 1) := by decide +kernel
theorem dX1_pairs_15 : decode cX1_pairs 15 = .ok (.istore_n 3, 1) := by decide +kernel
theorem dX1_pairs_16 : decode cX1_pairs 16 = .ok (.iload_n 3, 1) := by decide +kernel
theorem dX1_pairs_17 : decode cX1_pairs 17 = .ok (.aload_n 0, 1) := by decide +kernel
theorem dX1_pairs_18 : decode cX1_pairs 18 = .ok (.getfield 60, 3) := by decide +kernel
theorem dX1_pairs_21 : decode cX1_pairs 21 = .ok (.if_icmp .ge 50, 3) := by decide +kernel
theorem dX1_pairs_24 : decode cX1_pairs 24 = .ok (.aload_n 0, 1) := by decide +kernel
theorem dX1_pairs_25 : decode cX1_pairs 25 = .ok (.getfield 15, 3) := by decide +kernel
theorem dX1_pairs_28 : decode cX1_pairs 28 = .ok (.iload_n 2, 1) := by decide +kernel
theorem dX1_pairs_29 : decode cX1_pairs 29 = .ok (.baload, 1) := by decide +kernel
theorem dX1_pairs_30 : decode cX1_pairs 30 = .ok (.ifCond .eq 35, 3) := by decide +kernel
theorem dX1_pairs_33 : decode cX1_pairs 33 = .ok (.aload_n 0, 1) := by decide +kernel
theorem dX1_pairs_34 : decode cX1_pairs 34 = .ok (.getfield 15, 3) := by decide +kernel
theorem dX1_pairs_37 : decode cX1_pairs 37 = .ok (.iload_n 3, 1) := by decide +kernel
theorem dX1_pairs_38 : decode cX1_pairs 38 = .ok (.baload, 1) := by decide +kernel
theorem dX1_pairs_39 : decode cX1_pairs 39 = .ok (.ifCond .eq 26, 3) := by decide +kernel
theorem dX1_pairs_42 : decode cX1_pairs 42 = .ok (.aload_n 0, 1) := by decide +kernel
theorem dX1_pairs_43 : decode cX1_pairs 43 = .ok (.getfield 24, 3) := by decide +kernel
theorem dX1_pairs_46 : decode cX1_pairs 46 = .ok (.iload_n 2, 1) := by decide +kernel
theorem dX1_pairs_47 : decode cX1_pairs 47 = .ok (.aload_n 0, 1) := by decide +kernel
theorem dX1_pairs_48 : decode cX1_pairs 48 = .ok (.getfield 24, 3) := by decide +kernel
theorem dX1_pairs_51 : decode cX1_pairs 51 = .ok (.iload_n 3, 1) := by decide +kernel
theorem dX1_pairs_52 : decode cX1_pairs 52 = .ok (.aload_n 0, 1) := by decide +kernel
theorem dX1_pairs_53 : decode cX1_pairs 53 = .ok (.getfield 9, 3) := by decide +kernel
theorem dX1_pairs_56 : decode cX1_pairs 56 = .ok (.invokestatic 129, 3) := by decide +kernel
theorem dX1_pairs_59 : decode cX1_pairs 59 = .ok (.ifCond .eq 6, 3) := by decide +kernel
theorem dX1_pairs_62 : decode cX1_pairs 62 = .ok (.iinc 1 1, 3) := by decide +kernel
theorem dX1_pairs_65 : decode cX1_pairs 65 = .ok (.iinc 3 1, 3) := by decide +kernel
theorem dX1_pairs_68 : decode cX1_pairs 68 = .ok (.goto (-52), 3) := by decide +kernel
theorem dX1_pairs_71 : decode cX1_pairs 71 = .ok (.iinc 2 1, 3) := by decide +kernel
theorem dX1_pairs_74 : decode cX1_pairs 74 = .ok (.goto (-70), 3) := by decide +kernel
theorem dX1_pairs_77 : decode cX1_pairs 77 = .ok (.iload_n 1, 1) := by decide +kernel
theorem dX1_pairs_78 : decode cX1_pairs 78 = .ok (.ireturn, 1) := by decide +kernel
set_option maxRecDepth 20000 in
theorem ggX1_day_J9_floorDiv_f86c9 : GoodIn wsX1_day wsJ9_floorDiv_f86c9 := goodIn_r _ [7] (by decide +kernel) (by decide +kernel)
set_option maxRecDepth 20000 in
theorem gX1_day_J9_floorDiv_f86c9 : GoodIn wsX1_day (va_wsS RX1 140 yJ9_floorDiv_f86c9 wsJ9_floorDiv_f86c9) := goodIn_app (goodIn_of _ (by decide +kernel)) ggX1_day_J9_floorDiv_f86c9
theorem dX1_day_0 : decode cX1_day 0 = .ok (.lload_n 3, 1) := by decide +kernel
theorem dX1_day_1 : decode cX1_day 1 = .ok (.lconst 0, 1) := by decide +kernel
theorem dX1_day_2 : decode cX1_day 2 = .ok (.lcmp, 1) := by decide +kernel
theorem dX1_day_3 : decode cX1_day 3 = .ok (.ifCond .ne 13, 3) := by decide +kernel
theorem dX1_day_6 : decode cX1_day 6 = .ok (.new 133, 3) := by decide +kernel
theorem dX1_day_9 : decode cX1_day 9 = .ok (.dup, 1) := by decide +kernel
theorem dX1_day_10 : decode cX1_day 10 = .ok (.ldc 135, 2) := by decide +kernel
theorem dX1_day_12 : decode cX1_day 12 = .ok (.invokespecial 137, 3) := by decide +kernel
theorem dX1_day_15 : decode cX1_day 15 = .ok (.athrow, 1) := by decide +kernel
theorem dX1_day_16 : decode cX1_day 16 = .ok (.lload_n 3, 1) := by decide +kernel
theorem dX1_day_17 : decode cX1_day 17 = .ok (.lconst 0, 1) := by decide +kernel
theorem dX1_day_18 : decode cX1_day 18 = .ok (.lcmp, 1) := by decide +kernel
theorem dX1_day_19 : decode cX1_day 19 = .ok (.ifCond .ge 7, 3) := by decide +kernel
theorem dX1_day_22 : decode cX1_day 22 = .ok (.ldc2_w 91, 3) := by decide +kernel
theorem dX1_day_25 : decode cX1_day 25 = .ok (.lreturn, 1) := by decide +kernel
theorem dX1_day_26 : decode cX1_day 26 = .ok (.lload_n 1, 1) := by decide +kernel
theorem dX1_day_27 : decode cX1_day 27 = .ok (.lload_n 3, 1) := by decide +kernel
theorem dX1_day_28 : decode cX1_day 28 = .ok (.invokestatic 140, 3) := by decide +kernel
theorem dX1_day_31 : decode cX1_day 31 = .ok (.lreturn, 1) := by decide +kernel
theorem dX1_hasThing_0 : decode cX1_hasThing 0 = .ok (.iload_n 1, 1) := by decide +kernel
theorem dX1_hasThing_1 : decode cX1_hasThing 1 = .ok (.ifCond .lt 24, 3) := by decide +kernel
theorem dX1_hasThing_4 : decode cX1_hasThing 4 = .ok (.iload_n 1, 1) := by decide +kernel
theorem dX1_hasThing_5 : decode cX1_hasThing 5 = .ok (.aload_n 0, 1) := by decide +kernel
theorem dX1_hasThing_6 : decode cX1_hasThing 6 = .ok (.getfield 60, 3) := by decide +kernel
theorem dX1_hasThing_9 : decode cX1_hasThing 9 = .ok (.if_icmp .ge 16, 3) := by decide +kernel
theorem dX1_hasThing_12 : decode cX1_hasThing 12 = .ok (.aload_n 0, 1) := by decide +kernel
theorem dX1_hasThing_13 : decode cX1_hasThing 13 = .ok (.getfield 15, 3) := by decide +kernel
theorem dX1_hasThing_16 : decode cX1_hasThing 16 = .ok (.iload_n 1, 1) := by decide +kernel
theorem dX1_hasThing_17 : decode cX1_hasThing 17 = .ok (.baload, 1) := by decide +kernel
theorem dX1_hasThing_18 : decode cX1_hasThing 18 = .ok (.ifCond .eq 7, 3) := by decide +kernel
theorem dX1_hasThing_21 : decode cX1_hasThing 21 = .ok (.iconst 1, 1) := by decide +kernel
theorem dX1_hasThing_22 : decode cX1_hasThing 22 = .ok (.goto 4, 3) := by decide +kernel
theorem dX1_hasThing_25 : decode cX1_hasThing 25 = .ok (.iconst 0, 1) := by decide +kernel
theorem dX1_hasThing_26 : decode cX1_hasThing 26 = .ok (.ireturn, 1) := by decide +kernel
theorem dX1_hasBlock_0 : decode cX1_hasBlock 0 = .ok (.iload_n 1, 1) := by decide +kernel
theorem dX1_hasBlock_1 : decode cX1_hasBlock 1 = .ok (.ifCond .lt 15, 3) := by decide +kernel
theorem dX1_hasBlock_4 : decode cX1_hasBlock 4 = .ok (.iload_n 1, 1) := by decide +kernel
theorem dX1_hasBlock_5 : decode cX1_hasBlock 5 = .ok (.aload_n 0, 1) := by decide +kernel
theorem dX1_hasBlock_6 : decode cX1_hasBlock 6 = .ok (.getfield 66, 3) := by decide +kernel
theorem dX1_hasBlock_9 : decode cX1_hasBlock 9 = .ok (.if_icmp .ge 7, 3) := by decide +kernel
theorem dX1_hasBlock_12 : decode cX1_hasBlock 12 = .ok (.iconst 1, 1) := by decide +kernel
theorem dX1_hasBlock_13 : decode cX1_hasBlock 13 = .ok (.goto 4, 3) := by decide +kernel
theorem dX1_hasBlock_16 : decode cX1_hasBlock 16 = .ok (.iconst 0, 1) := by decide +kernel
theorem dX1_hasBlock_17 : decode cX1_hasBlock 17 = .ok (.ireturn, 1) := by decide +kernel
theorem dX1_hasEnd_0 : decode cX1_hasEnd 0 = .ok (.iload_n 1, 1) := by decide +kernel
theorem dX1_hasEnd_1 : decode cX1_hasEnd 1 = .ok (.ifCond .lt 24, 3) := by decide +kernel
theorem dX1_hasEnd_4 : decode cX1_hasEnd 4 = .ok (.iload_n 1, 1) := by decide +kernel
theorem dX1_hasEnd_5 : decode cX1_hasEnd 5 = .ok (.aload_n 0, 1) := by decide +kernel
theorem dX1_hasEnd_6 : decode cX1_hasEnd 6 = .ok (.getfield 9, 3) := by decide +kernel
theorem dX1_hasEnd_9 : decode cX1_hasEnd 9 = .ok (.if_icmp .ge 16, 3) := by decide +kernel
