def RX0 : String := "SlabTurn$Dish"
def TX0 : u_T := fun k => match k with
  | 0 => ("SlabTurn$Dish", "warmth", "[I", true)
  | 1 => ("SlabTurn$Dish", "next", "[I", true)
  | 2 => ("SlabTurn$Dish", "most", "[I", true)
  | 3 => ("SlabTurn$Dish", "juice", "[I", true)
  | 4 => ("SlabTurn$Dish", "wet", "[I", true)
  | 5 => ("SlabTurn$Dish", "brown", "[I", true)
  | 6 => ("SlabTurn$Dish", "plan", "LSlabTurn$Plan;", true)
  | 7 => ("SlabTurn$Dish", "there", "Z", false)
  | 8 => ("SlabTurn$Dish", "thick", "I", false)
  | 9 => ("SlabTurn$Dish", "salt", "I", false)
  | 10 => ("SlabTurn$Dish", "fat", "I", false)
  | 11 => ("SlabTurn$Dish", "down", "I", false)
  | 12 => ("SlabTurn$Dish", "tick", "I", false)
  | 13 => ("SlabTurn$Dish", "stepAt", "I", false)
  | 14 => ("SlabTurn$Dish", "stepGone", "I", false)
  | 15 => ("SlabTurn$Dish", "latest", "I", false)
  | _ => ("SlabTurn$Dish", "rested", "I", false)
def tyX0 : Nat → FieldType := fun k => match k with
  | 0 => .array (.int)
  | 1 => .array (.int)
  | 2 => .array (.int)
  | 3 => .array (.int)
  | 4 => .array (.int)
  | 5 => .array (.int)
  | 6 => .object "SlabTurn$Plan"
  | 7 => .boolean
  | 8 => .int
  | 9 => .int
  | 10 => .int
  | 11 => .int
  | 12 => .int
  | 13 => .int
  | 14 => .int
  | 15 => .int
  | _ => .int
theorem nmX0 : ∀ a, a < 17 → ∀ b, b < 17 → a ≠ b → (TX0 a).2.1 ≠ (TX0 b).2.1 := by decide +kernel
theorem tyX0_ok : ∀ k, k < 17 → parseFieldDescriptor (TX0 k).2.2.1 = some (tyX0 k) := by decide +kernel
def RX1 : String := "SlabTurn$Fire"
def TX1 : u_T := fun k => match k with
  | 0 => ("SlabTurn$Fire", "loss", "[I", true)
  | 1 => ("SlabTurn$Fire", "best", "[I", true)
  | _ => ("SlabTurn$Fire", "least", "I", false)
def tyX1 : Nat → FieldType := fun k => match k with
  | 0 => .array (.int)
  | 1 => .array (.int)
  | _ => .int
theorem nmX1 : ∀ a, a < 3 → ∀ b, b < 3 → a ≠ b → (TX1 a).2.1 ≠ (TX1 b).2.1 := by decide +kernel
theorem tyX1_ok : ∀ k, k < 3 → parseFieldDescriptor (TX1 k).2.2.1 = some (tyX1 k) := by decide +kernel
def RX2 : String := "SlabTurn$Plan"
def TX2 : u_T := fun k => match k with
  | 0 => ("SlabTurn$Plan", "kind", "[I", true)
  | 1 => ("SlabTurn$Plan", "heat", "[I", true)
  | 2 => ("SlabTurn$Plan", "length", "[I", true)
  | 3 => ("SlabTurn$Plan", "there", "Z", false)
  | 4 => ("SlabTurn$Plan", "count", "I", false)
  | _ => ("SlabTurn$Plan", "ticks", "I", false)
def tyX2 : Nat → FieldType := fun k => match k with
  | 0 => .array (.int)
  | 1 => .array (.int)
  | 2 => .array (.int)
  | 3 => .boolean
  | 4 => .int
  | _ => .int
theorem nmX2 : ∀ a, a < 6 → ∀ b, b < 6 → a ≠ b → (TX2 a).2.1 ≠ (TX2 b).2.1 := by decide +kernel
theorem tyX2_ok : ∀ k, k < 6 → parseFieldDescriptor (TX2 k).2.2.1 = some (tyX2 k) := by decide +kernel
def RX3 : String := "SlabTurn$Reader"
def TX3 : u_T := fun k => match k with
  | 0 => ("SlabTurn$Reader", "place", "I", false)
  | _ => ("SlabTurn$Reader", "fault", "I", false)
def tyX3 : Nat → FieldType := fun k => match k with
  | 0 => .int
  | _ => .int
theorem nmX3 : ∀ a, a < 2 → ∀ b, b < 2 → a ≠ b → (TX3 a).2.1 ≠ (TX3 b).2.1 := by decide +kernel
theorem tyX3_ok : ∀ k, k < 2 → parseFieldDescriptor (TX3 k).2.2.1 = some (tyX3 k) := by decide +kernel
def RX4 : String := "SlabTurn$Row"
def TX4 : u_T := fun k => match k with
  | 0 => ("SlabTurn$Row", "place", "[I", true)
  | _ => ("SlabTurn$Row", "size", "I", false)
def tyX4 : Nat → FieldType := fun k => match k with
  | 0 => .array (.int)
  | _ => .int
theorem nmX4 : ∀ a, a < 2 → ∀ b, b < 2 → a ≠ b → (TX4 a).2.1 ≠ (TX4 b).2.1 := by decide +kernel
theorem tyX4_ok : ∀ k, k < 2 → parseFieldDescriptor (TX4 k).2.2.1 = some (tyX4 k) := by decide +kernel
def RX5 : String := "SlabTurn$Slab"
def TX5 : u_T := fun k => match k with
  | 0 => ("SlabTurn$Slab", "there", "Z", false)
  | 1 => ("SlabTurn$Slab", "thick", "I", false)
  | 2 => ("SlabTurn$Slab", "cold", "I", false)
  | 3 => ("SlabTurn$Slab", "salt", "I", false)
  | _ => ("SlabTurn$Slab", "fat", "I", false)
def tyX5 : Nat → FieldType := fun k => match k with
  | 0 => .boolean
  | 1 => .int
  | 2 => .int
  | 3 => .int
  | _ => .int
theorem nmX5 : ∀ a, a < 5 → ∀ b, b < 5 → a ≠ b → (TX5 a).2.1 ≠ (TX5 b).2.1 := by decide +kernel
theorem tyX5_ok : ∀ k, k < 5 → parseFieldDescriptor (TX5 k).2.2.1 = some (tyX5 k) := by decide +kernel
def RX6 : String := "SlabTurn$Text"
def TX6 : u_T := fun k => match k with
  | 0 => ("SlabTurn$Text", "sign", "[B", true)
  | _ => ("SlabTurn$Text", "size", "I", false)
def tyX6 : Nat → FieldType := fun k => match k with
  | 0 => .array (.byte)
  | _ => .int
theorem nmX6 : ∀ a, a < 2 → ∀ b, b < 2 → a ≠ b → (TX6 a).2.1 ≠ (TX6 b).2.1 := by decide +kernel
theorem tyX6_ok : ∀ k, k < 2 → parseFieldDescriptor (TX6 k).2.2.1 = some (tyX6 k) := by decide +kernel
def RX7 : String := "SlabTurn"
def TX7 : u_T := fun k => match k with
  | 0 => ("SlabTurn", "rows", "[LSlabTurn$Row;", true)
  | 1 => ("SlabTurn", "texts", "[LSlabTurn$Text;", true)
  | 2 => ("SlabTurn", "slabs", "[LSlabTurn$Slab;", true)
  | 3 => ("SlabTurn", "plans", "[LSlabTurn$Plan;", true)
  | 4 => ("SlabTurn", "dish", "LSlabTurn$Dish;", true)
  | 5 => ("SlabTurn", "kept", "[LSlabTurn$Dish;", true)
  | 6 => ("SlabTurn", "trial", "LSlabTurn$Dish;", true)
  | 7 => ("SlabTurn", "second", "LSlabTurn$Dish;", true)
  | 8 => ("SlabTurn", "reader", "LSlabTurn$Reader;", true)
  | 9 => ("SlabTurn", "readSlab", "LSlabTurn$Slab;", true)
  | 10 => ("SlabTurn", "readPlan", "LSlabTurn$Plan;", true)
  | 11 => ("SlabTurn", "fire", "LSlabTurn$Fire;", true)
  | 12 => ("SlabTurn", "unlike", "[I", true)
  | 13 => ("SlabTurn", "ticksByThick", "[I", true)
  | 14 => ("SlabTurn", "findings", "[I", true)
  | 15 => ("SlabTurn", "finding", "I", false)
  | 16 => ("SlabTurn", "asked", "I", false)
  | 17 => ("SlabTurn", "upper", "J", false)
  | _ => ("SlabTurn", "lower", "J", false)
def tyX7 : Nat → FieldType := fun k => match k with
  | 0 => .array (.object "SlabTurn$Row")
  | 1 => .array (.object "SlabTurn$Text")
  | 2 => .array (.object "SlabTurn$Slab")
  | 3 => .array (.object "SlabTurn$Plan")
  | 4 => .object "SlabTurn$Dish"
  | 5 => .array (.object "SlabTurn$Dish")
  | 6 => .object "SlabTurn$Dish"
  | 7 => .object "SlabTurn$Dish"
  | 8 => .object "SlabTurn$Reader"
  | 9 => .object "SlabTurn$Slab"
  | 10 => .object "SlabTurn$Plan"
  | 11 => .object "SlabTurn$Fire"
  | 12 => .array (.int)
  | 13 => .array (.int)
  | 14 => .array (.int)
  | 15 => .int
  | 16 => .int
  | 17 => .long
  | _ => .long
theorem nmX7 : ∀ a, a < 19 → ∀ b, b < 19 → a ≠ b → (TX7 a).2.1 ≠ (TX7 b).2.1 := by decide +kernel
theorem tyX7_ok : ∀ k, k < 19 → parseFieldDescriptor (TX7 k).2.2.1 = some (tyX7 k) := by decide +kernel
def RX8 : String := "SlabTurnModel"
def TX8 : u_T := fun k => match k with
  | _ => ("", "", "", false)
def tyX8 : Nat → FieldType := fun k => match k with
  | _ => .int
theorem nmX8 : ∀ a, a < 0 → ∀ b, b < 0 → a ≠ b → (TX8 a).2.1 ≠ (TX8 b).2.1 := by decide +kernel
theorem tyX8_ok : ∀ k, k < 0 → parseFieldDescriptor (TX8 k).2.2.1 = some (tyX8 k) := by decide +kernel
def RJ6 : String := "java/lang/Integer"
def RJ9 : String := "java/lang/Math"
def RL : String := "SlabTurnLaw"
abbrev cX0_init : ByteArray := prog_2_method_1_code
def yX0_init : MethodName := ⟨RX0, "<init>", "()V"⟩
abbrev cX0_begin : ByteArray := prog_2_method_2_code
def yX0_begin : MethodName := ⟨RX0, "begin", "(LSlabTurn$Slab;II)V"⟩
abbrev cX0_become : ByteArray := prog_2_method_3_code
def yX0_become : MethodName := ⟨RX0, "become", "(LSlabTurn$Dish;)V"⟩
abbrev cX0_makeByPlan : ByteArray := prog_2_method_4_code
def yX0_makeByPlan : MethodName := ⟨RX0, "makeByPlan", "(LSlabTurn$Slab;IILSlabTurn$Plan;)V"⟩
abbrev cX0_makeByWay : ByteArray := prog_2_method_5_code
def yX0_makeByWay : MethodName := ⟨RX0, "makeByWay", "(LSlabTurn$Slab;III)V"⟩
abbrev cX0_goByWay : ByteArray := prog_2_method_6_code
def yX0_goByWay : MethodName := ⟨RX0, "goByWay", "(II)V"⟩
abbrev cX0_ticksTill : ByteArray := prog_2_method_7_code
def yX0_ticksTill : MethodName := ⟨RX0, "ticksTill", "(LSlabTurn$Slab;IIII)I"⟩
abbrev cX0_goOn : ByteArray := prog_2_method_8_code
def yX0_goOn : MethodName := ⟨RX0, "goOn", "(I)V"⟩
abbrev cX0_turnAndDry : ByteArray := prog_2_method_9_code
def yX0_turnAndDry : MethodName := ⟨RX0, "turnAndDry", "()V"⟩
abbrev cX0_restFor : ByteArray := prog_2_method_10_code
def yX0_restFor : MethodName := ⟨RX0, "restFor", "(I)V"⟩
abbrev cX0_greatestAtRest : ByteArray := prog_2_method_11_code
def yX0_greatestAtRest : MethodName := ⟨RX0, "greatestAtRest", "(I)I"⟩
abbrev cX0_heat : ByteArray := prog_2_method_12_code
def yX0_heat : MethodName := ⟨RX0, "heat", "(II)V"⟩
abbrev cX0_spread : ByteArray := prog_2_method_13_code
def yX0_spread : MethodName := ⟨RX0, "spread", "(II)V"⟩
abbrev cX0_fromOutside : ByteArray := prog_2_method_14_code
def yX0_fromOutside : MethodName := ⟨RX0, "fromOutside", "(IIZI)I"⟩
abbrev cX0_boil : ByteArray := prog_2_method_15_code
def yX0_boil : MethodName := ⟨RX0, "boil", "(II)V"⟩
abbrev cX0_browns : ByteArray := prog_2_method_16_code
def yX0_browns : MethodName := ⟨RX0, "browns", "(II)V"⟩
abbrev cX0_middle : ByteArray := prog_2_method_17_code
def yX0_middle : MethodName := ⟨RX0, "middle", "()I"⟩
abbrev cX0_has : ByteArray := prog_2_method_18_code
def yX0_has : MethodName := ⟨RX0, "has", "(I)Z"⟩
abbrev cX0_warmthAt : ByteArray := prog_2_method_19_code
def yX0_warmthAt : MethodName := ⟨RX0, "warmthAt", "(I)I"⟩
abbrev cX0_mostAt : ByteArray := prog_2_method_20_code
def yX0_mostAt : MethodName := ⟨RX0, "mostAt", "(I)I"⟩
abbrev cX0_juiceAt : ByteArray := prog_2_method_21_code
def yX0_juiceAt : MethodName := ⟨RX0, "juiceAt", "(I)I"⟩
abbrev cX0_middleWarmth : ByteArray := prog_2_method_22_code
def yX0_middleWarmth : MethodName := ⟨RX0, "middleWarmth", "()I"⟩
abbrev cX0_middleMost : ByteArray := prog_2_method_23_code
def yX0_middleMost : MethodName := ⟨RX0, "middleMost", "()I"⟩
abbrev cX0_depthTells : ByteArray := prog_2_method_24_code
def yX0_depthTells : MethodName := ⟨RX0, "depthTells", "(II)I"⟩
abbrev cX0_wetOf : ByteArray := prog_2_method_25_code
def yX0_wetOf : MethodName := ⟨RX0, "wetOf", "(I)I"⟩
abbrev cX0_brownOf : ByteArray := prog_2_method_26_code
def yX0_brownOf : MethodName := ⟨RX0, "brownOf", "(I)I"⟩
abbrev cX0_skinTells : ByteArray := prog_2_method_27_code
def yX0_skinTells : MethodName := ⟨RX0, "skinTells", "(II)I"⟩
abbrev cX0_kindOf : ByteArray := prog_2_method_28_code
def yX0_kindOf : MethodName := ⟨RX0, "kindOf", "(I)I"⟩
abbrev cX0_crust : ByteArray := prog_2_method_30_code
def yX0_crust : MethodName := ⟨RX0, "crust", "()I"⟩
abbrev cX0_justSo : ByteArray := prog_2_method_31_code
def yX0_justSo : MethodName := ⟨RX0, "justSo", "(II)I"⟩
abbrev cX0_pink : ByteArray := prog_2_method_32_code
def yX0_pink : MethodName := ⟨RX0, "pink", "()I"⟩
abbrev cX0_colour : ByteArray := prog_2_method_33_code
def yX0_colour : MethodName := ⟨RX0, "colour", "(I)I"⟩
abbrev cX0_unlikeRow : ByteArray := prog_2_method_34_code
def yX0_unlikeRow : MethodName := ⟨RX0, "unlikeRow", "(LSlabTurn$Row;)I"⟩
abbrev cX0_allJuice : ByteArray := prog_2_method_35_code
def yX0_allJuice : MethodName := ⟨RX0, "allJuice", "()I"⟩
abbrev cX0_lossNow : ByteArray := prog_2_method_36_code
def yX0_lossNow : MethodName := ⟨RX0, "lossNow", "()I"⟩
abbrev cX0_digestOn : ByteArray := prog_2_method_37_code
def yX0_digestOn : MethodName := ⟨RX0, "digestOn", "(J)J"⟩
abbrev cX1_init : ByteArray := prog_3_method_1_code
def yX1_init : MethodName := ⟨RX1, "<init>", "()V"⟩
abbrev cX1_setLoss : ByteArray := prog_3_method_2_code
def yX1_setLoss : MethodName := ⟨RX1, "setLoss", "(III)V"⟩
abbrev cX1_lossOf : ByteArray := prog_3_method_3_code
def yX1_lossOf : MethodName := ⟨RX1, "lossOf", "(II)I"⟩
abbrev cX1_bestAt : ByteArray := prog_3_method_4_code
def yX1_bestAt : MethodName := ⟨RX1, "bestAt", "(I)I"⟩
abbrev cX1_findBest : ByteArray := prog_3_method_5_code
def yX1_findBest : MethodName := ⟨RX1, "findBest", "(I)V"⟩
abbrev cX1_figureOf : ByteArray := prog_3_method_6_code
def yX1_figureOf : MethodName := ⟨RX1, "figureOf", "(III)I"⟩
abbrev cX1_lossOfOrder : ByteArray := prog_3_method_7_code
def yX1_lossOfOrder : MethodName := ⟨RX1, "lossOfOrder", "(III)I"⟩
abbrev cX2_init : ByteArray := prog_4_method_1_code
def yX2_init : MethodName := ⟨RX2, "<init>", "()V"⟩
abbrev cX2_begin : ByteArray := prog_4_method_2_code
def yX2_begin : MethodName := ⟨RX2, "begin", "()V"⟩
abbrev cX2_add : ByteArray := prog_4_method_3_code
def yX2_add : MethodName := ⟨RX2, "add", "(III)V"⟩
abbrev cX2_become : ByteArray := prog_4_method_4_code
def yX2_become : MethodName := ⟨RX2, "become", "(LSlabTurn$Plan;)V"⟩
abbrev cX2_has : ByteArray := prog_4_method_5_code
def yX2_has : MethodName := ⟨RX2, "has", "(I)Z"⟩
abbrev cX2_kindAt : ByteArray := prog_4_method_6_code
def yX2_kindAt : MethodName := ⟨RX2, "kindAt", "(I)I"⟩
abbrev cX2_heatAt : ByteArray := prog_4_method_7_code
def yX2_heatAt : MethodName := ⟨RX2, "heatAt", "(I)I"⟩
abbrev cX2_lengthAt : ByteArray := prog_4_method_8_code
def yX2_lengthAt : MethodName := ⟨RX2, "lengthAt", "(I)I"⟩
abbrev cX2_numbersAt : ByteArray := prog_4_method_9_code
def yX2_numbersAt : MethodName := ⟨RX2, "numbersAt", "(I)I"⟩
abbrev cX2_digestOn : ByteArray := prog_4_method_10_code
def yX2_digestOn : MethodName := ⟨RX2, "digestOn", "(J)J"⟩
abbrev cX3_init : ByteArray := prog_5_method_1_code
def yX3_init : MethodName := ⟨RX3, "<init>", "()V"⟩
abbrev cX3_readSlab : ByteArray := prog_5_method_2_code
def yX3_readSlab : MethodName := ⟨RX3, "readSlab", "(LSlabTurn$Text;LSlabTurn$Slab;)I"⟩
abbrev cX3_readPlan : ByteArray := prog_5_method_3_code
def yX3_readPlan : MethodName := ⟨RX3, "readPlan", "(LSlabTurn$Text;LSlabTurn$Plan;)V"⟩
abbrev cX3_skipBlanks : ByteArray := prog_5_method_4_code
def yX3_skipBlanks : MethodName := ⟨RX3, "skipBlanks", "(LSlabTurn$Text;)V"⟩
abbrev cX3_readItem : ByteArray := prog_5_method_5_code
def yX3_readItem : MethodName := ⟨RX3, "readItem", "(LSlabTurn$Text;LSlabTurn$Slab;)V"⟩
abbrev cX3_readStep : ByteArray := prog_5_method_6_code
def yX3_readStep : MethodName := ⟨RX3, "readStep", "(LSlabTurn$Text;LSlabTurn$Plan;)V"⟩
abbrev cX3_stepKind : ByteArray := prog_5_method_7_code
def yX3_stepKind : MethodName := ⟨RX3, "stepKind", "(I)I"⟩
abbrev cX3_readNumber : ByteArray := prog_5_method_8_code
def yX3_readNumber : MethodName := ⟨RX3, "readNumber", "(LSlabTurn$Text;II)I"⟩
abbrev cX4_init : ByteArray := prog_6_method_1_code
def yX4_init : MethodName := ⟨RX4, "<init>", "()V"⟩
abbrev cX4_there : ByteArray := prog_6_method_2_code
def yX4_there : MethodName := ⟨RX4, "there", "()Z"⟩
abbrev cX4_begin : ByteArray := prog_6_method_3_code
def yX4_begin : MethodName := ⟨RX4, "begin", "(I)V"⟩
abbrev cX4_has : ByteArray := prog_6_method_4_code
def yX4_has : MethodName := ⟨RX4, "has", "(I)Z"⟩
abbrev cX4_value : ByteArray := prog_6_method_6_code
def yX4_value : MethodName := ⟨RX4, "value", "(I)I"⟩
abbrev cX4_set : ByteArray := prog_6_method_7_code
def yX4_set : MethodName := ⟨RX4, "set", "(II)V"⟩
abbrev cX4_digestOn : ByteArray := prog_6_method_9_code
def yX4_digestOn : MethodName := ⟨RX4, "digestOn", "(J)J"⟩
abbrev cX5_init : ByteArray := prog_7_method_1_code
def yX5_init : MethodName := ⟨RX5, "<init>", "()V"⟩
abbrev cX5_begin : ByteArray := prog_7_method_2_code
def yX5_begin : MethodName := ⟨RX5, "begin", "()V"⟩
abbrev cX5_become : ByteArray := prog_7_method_3_code
def yX5_become : MethodName := ⟨RX5, "become", "(LSlabTurn$Slab;)V"⟩
abbrev cX5_tells : ByteArray := prog_7_method_4_code
def yX5_tells : MethodName := ⟨RX5, "tells", "(I)I"⟩
abbrev cX5_digestOn : ByteArray := prog_7_method_5_code
def yX5_digestOn : MethodName := ⟨RX5, "digestOn", "(J)J"⟩
abbrev cX6_init : ByteArray := prog_8_method_1_code
def yX6_init : MethodName := ⟨RX6, "<init>", "()V"⟩
abbrev cX6_there : ByteArray := prog_8_method_2_code
def yX6_there : MethodName := ⟨RX6, "there", "()Z"⟩
abbrev cX6_begin : ByteArray := prog_8_method_3_code
def yX6_begin : MethodName := ⟨RX6, "begin", "(I)V"⟩
abbrev cX6_has : ByteArray := prog_8_method_4_code
def yX6_has : MethodName := ⟨RX6, "has", "(I)Z"⟩
abbrev cX6_value : ByteArray := prog_8_method_5_code
def yX6_value : MethodName := ⟨RX6, "value", "(I)I"⟩
abbrev cX6_set : ByteArray := prog_8_method_6_code
def yX6_set : MethodName := ⟨RX6, "set", "(IB)V"⟩
abbrev cX6_digestOn : ByteArray := prog_8_method_7_code
def yX6_digestOn : MethodName := ⟨RX6, "digestOn", "(J)J"⟩
abbrev cX7_init : ByteArray := prog_1_method_1_code
def yX7_init : MethodName := ⟨RX7, "<init>", "()V"⟩
abbrev cX7_at : ByteArray := prog_1_method_4_code
def yX7_at : MethodName := ⟨RX7, "at", "(II)I"⟩
abbrev cX7_tear : ByteArray := prog_1_method_5_code
def yX7_tear : MethodName := ⟨RX7, "tear", "(I)I"⟩
abbrev cX7_text : ByteArray := prog_1_method_8_code
def yX7_text : MethodName := ⟨RX7, "text", "(II)I"⟩
abbrev cX7_put : ByteArray := prog_1_method_9_code
def yX7_put : MethodName := ⟨RX7, "put", "(III)I"⟩
abbrev cX7_fault : ByteArray := prog_1_method_10_code
def yX7_fault : MethodName := ⟨RX7, "fault", "(IZ)I"⟩
abbrev cX7_slab : ByteArray := prog_1_method_11_code
def yX7_slab : MethodName := ⟨RX7, "slab", "(II)I"⟩
abbrev cX7_plan : ByteArray := prog_1_method_12_code
def yX7_plan : MethodName := ⟨RX7, "plan", "(II)I"⟩
abbrev cX7_dish : ByteArray := prog_1_method_15_code
def yX7_dish : MethodName := ⟨RX7, "dish", "(II)I"⟩
abbrev cX7_go : ByteArray := prog_1_method_16_code
def yX7_go : MethodName := ⟨RX7, "go", "(I)I"⟩
abbrev cX7_depth : ByteArray := prog_1_method_17_code
def yX7_depth : MethodName := ⟨RX7, "depth", "(II)I"⟩
abbrev cX7_skin : ByteArray := prog_1_method_18_code
def yX7_skin : MethodName := ⟨RX7, "skin", "(II)I"⟩
abbrev cX7_just : ByteArray := prog_1_method_22_code
def yX7_just : MethodName := ⟨RX7, "just", "(II)I"⟩
abbrev cX7_slice : ByteArray := prog_1_method_23_code
def yX7_slice : MethodName := ⟨RX7, "slice", "(I)I"⟩
abbrev cX7_cut : ByteArray := prog_1_method_24_code
def yX7_cut : MethodName := ⟨RX7, "cut", "(I)I"⟩
abbrev cX7_rise : ByteArray := prog_1_method_25_code
def yX7_rise : MethodName := ⟨RX7, "rise", "()I"⟩
abbrev cX7_way : ByteArray := prog_1_method_27_code
def yX7_way : MethodName := ⟨RX7, "way", "(IIII)I"⟩
abbrev cX7_often : ByteArray := prog_1_method_28_code
def yX7_often : MethodName := ⟨RX7, "often", "(IIII)I"⟩
abbrev cX7_turns : ByteArray := prog_1_method_29_code
def yX7_turns : MethodName := ⟨RX7, "turns", "(III)I"⟩
abbrev cX7_most : ByteArray := prog_1_method_30_code
def yX7_most : MethodName := ⟨RX7, "most", "(IIII)I"⟩
abbrev cX7_off : ByteArray := prog_1_method_31_code
def yX7_off : MethodName := ⟨RX7, "off", "(IIII)I"⟩
abbrev cX7_rest : ByteArray := prog_1_method_32_code
def yX7_rest : MethodName := ⟨RX7, "rest", "(II)I"⟩
abbrev cX7_salt : ByteArray := prog_1_method_33_code
def yX7_salt : MethodName := ⟨RX7, "salt", "(II)I"⟩
abbrev cX7_thick : ByteArray := prog_1_method_34_code
def yX7_thick : MethodName := ⟨RX7, "thick", "(IIII)I"⟩
abbrev cX7_same : ByteArray := prog_1_method_35_code
def yX7_same : MethodName := ⟨RX7, "same", "(IIIIII)I"⟩
abbrev cX7_order : ByteArray := prog_1_method_36_code
def yX7_order : MethodName := ⟨RX7, "order", "(II)I"⟩
abbrev cX7_safe : ByteArray := prog_1_method_38_code
def yX7_safe : MethodName := ⟨RX7, "safe", "(II)I"⟩
abbrev cX7_which : ByteArray := prog_1_method_39_code
def yX7_which : MethodName := ⟨RX7, "which", "(I)I"⟩
abbrev cX7_odds : ByteArray := prog_1_method_40_code
def yX7_odds : MethodName := ⟨RX7, "odds", "(II)I"⟩
abbrev cX7_rule : ByteArray := prog_1_method_41_code
def yX7_rule : MethodName := ⟨RX7, "rule", "(IIII)I"⟩
abbrev cX7_asked : ByteArray := prog_1_method_42_code
def yX7_asked : MethodName := ⟨RX7, "asked", "()I"⟩
abbrev cX7_upper : ByteArray := prog_1_method_43_code
def yX7_upper : MethodName := ⟨RX7, "upper", "()J"⟩
abbrev cX7_count : ByteArray := prog_1_method_45_code
def yX7_count : MethodName := ⟨RX7, "count", "(I)I"⟩
abbrev cX7_digest : ByteArray := prog_1_method_48_code
def yX7_digest : MethodName := ⟨RX7, "digest", "()J"⟩
abbrev cX7_within : ByteArray := prog_1_method_49_code
def yX7_within : MethodName := ⟨RX7, "within", "(III)Z"⟩
abbrev cX7_isWay : ByteArray := prog_1_method_50_code
def yX7_isWay : MethodName := ⟨RX7, "isWay", "(II)Z"⟩
abbrev cX7_isHeat : ByteArray := prog_1_method_51_code
def yX7_isHeat : MethodName := ⟨RX7, "isHeat", "(I)Z"⟩
abbrev cX7_isSpan : ByteArray := prog_1_method_52_code
def yX7_isSpan : MethodName := ⟨RX7, "isSpan", "(II)Z"⟩
abbrev cX7_isOf : ByteArray := prog_1_method_53_code
def yX7_isOf : MethodName := ⟨RX7, "isOf", "(II)Z"⟩
abbrev cX7_found : ByteArray := prog_1_method_54_code
def yX7_found : MethodName := ⟨RX7, "found", "(I)I"⟩
abbrev cX7_told : ByteArray := prog_1_method_55_code
def yX7_told : MethodName := ⟨RX7, "told", "(II)I"⟩
abbrev cX7_tellFraction : ByteArray := prog_1_method_56_code
def yX7_tellFraction : MethodName := ⟨RX7, "tellFraction", "(II)V"⟩
abbrev cX7_rowAt : ByteArray := prog_1_method_57_code
def yX7_rowAt : MethodName := ⟨RX7, "rowAt", "(I)LSlabTurn$Row;"⟩
abbrev cX7_textAt : ByteArray := prog_1_method_58_code
def yX7_textAt : MethodName := ⟨RX7, "textAt", "(I)LSlabTurn$Text;"⟩
abbrev cX7_slabAt : ByteArray := prog_1_method_59_code
def yX7_slabAt : MethodName := ⟨RX7, "slabAt", "(I)LSlabTurn$Slab;"⟩
abbrev cX7_planAt : ByteArray := prog_1_method_60_code
def yX7_planAt : MethodName := ⟨RX7, "planAt", "(I)LSlabTurn$Plan;"⟩
abbrev cX7_hasBoth : ByteArray := prog_1_method_62_code
def yX7_hasBoth : MethodName := ⟨RX7, "hasBoth", "(I)Z"⟩
abbrev cX7_isIn : ByteArray := prog_1_method_63_code
def yX7_isIn : MethodName := ⟨RX7, "isIn", "(II)Z"⟩
abbrev cX7_tellLosses : ByteArray := prog_1_method_64_code
def yX7_tellLosses : MethodName := ⟨RX7, "tellLosses", "(II)V"⟩
abbrev cX7_ticksOf : ByteArray := prog_1_method_65_code
def yX7_ticksOf : MethodName := ⟨RX7, "ticksOf", "(I)I"⟩
abbrev cX7_wrongSlice : ByteArray := prog_1_method_66_code
def yX7_wrongSlice : MethodName := ⟨RX7, "wrongSlice", "(LSlabTurn$Row;)I"⟩
abbrev cX7_leastUnlike : ByteArray := prog_1_method_67_code
def yX7_leastUnlike : MethodName := ⟨RX7, "leastUnlike", "(LSlabTurn$Row;)I"⟩
abbrev cX7_slabsThere : ByteArray := prog_1_method_68_code
def yX7_slabsThere : MethodName := ⟨RX7, "slabsThere", "()I"⟩
abbrev cX7_plansThere : ByteArray := prog_1_method_69_code
def yX7_plansThere : MethodName := ⟨RX7, "plansThere", "()I"⟩
abbrev cX7_dishesKept : ByteArray := prog_1_method_70_code
def yX7_dishesKept : MethodName := ⟨RX7, "dishesKept", "()I"⟩
abbrev cX7_rowsThere : ByteArray := prog_1_method_71_code
def yX7_rowsThere : MethodName := ⟨RX7, "rowsThere", "()I"⟩
abbrev cX7_textsThere : ByteArray := prog_1_method_72_code
def yX7_textsThere : MethodName := ⟨RX7, "textsThere", "()I"⟩
abbrev cX7_skinsOf : ByteArray := prog_1_method_73_code
def yX7_skinsOf : MethodName := ⟨RX7, "skinsOf", "(I)I"⟩
abbrev cJ6_bitCount_0f7a4 : ByteArray := prog_11_method_49_code
def yJ6_bitCount_0f7a4 : MethodName := ⟨RJ6, "bitCount", "(I)I"⟩
abbrev cJ9_abs_0f7a4 : ByteArray := prog_12_method_59_code
def yJ9_abs_0f7a4 : MethodName := ⟨RJ9, "abs", "(I)I"⟩
abbrev cJ9_max_7cf53 : ByteArray := prog_12_method_65_code
def yJ9_max_7cf53 : MethodName := ⟨RJ9, "max", "(II)I"⟩
abbrev cJ9_min_7cf53 : ByteArray := prog_12_method_69_code
def yJ9_min_7cf53 : MethodName := ⟨RJ9, "min", "(II)I"⟩
abbrev cL_cell : ByteArray := method_2_code
def yL_cell : MethodName := ⟨RL, "cell", "([II)I"⟩
abbrev cL_put : ByteArray := method_3_code
def yL_put : MethodName := ⟨RL, "put", "(LSlabTurn;II)I"⟩
abbrev cL_number : ByteArray := method_4_code
def yL_number : MethodName := ⟨RL, "number", "(LSlabTurn;II)I"⟩
abbrev cL_numbers : ByteArray := method_5_code
def yL_numbers : MethodName := ⟨RL, "numbers", "([II[I)V"⟩
abbrev cL_slab : ByteArray := method_6_code
def yL_slab : MethodName := ⟨RL, "slab", "(LSlabTurn;I[I)Z"⟩
abbrev cL_plans : ByteArray := method_7_code
def yL_plans : MethodName := ⟨RL, "plans", "([III[I)V"⟩
abbrev cL_plan : ByteArray := method_8_code
def yL_plan : MethodName := ⟨RL, "plan", "(LSlabTurn;I[I)Z"⟩
abbrev cL_ticks : ByteArray := method_9_code
def yL_ticks : MethodName := ⟨RL, "ticks", "([I)I"⟩
abbrev cL_tells : ByteArray := method_10_code
def yL_tells : MethodName := ⟨RL, "tells", "(LSlabTurn;I)I"⟩
abbrev cL_copy : ByteArray := method_11_code
def yL_copy : MethodName := ⟨RL, "copy", "([I[II)V"⟩
abbrev cL_law : ByteArray := code
def yL_law : MethodName := ⟨RL, "law", "([I)Z"⟩
abbrev cL_ways : ByteArray := method_21_code
def yL_ways : MethodName := ⟨RL, "ways", "(LSlabTurn;[I[I)Z"⟩
abbrev cL_salts : ByteArray := method_22_code
def yL_salts : MethodName := ⟨RL, "salts", "(LSlabTurn;LSlabTurn;[I[I)Z"⟩
abbrev vwCl : List vw_C := [(RX0, TX0, 17), (RX1, TX1, 3), (RX2, TX2, 6), (RX3, TX3, 2), (RX4, TX4, 2), (RX5, TX5, 5), (RX6, TX6, 2), (RX7, TX7, 19)]
def nestWs : List Cond := [Cond.methodLinkNest RX7 35 yX0_init "SlabTurn", Cond.methodLinkNest RX0 32 yX2_init "SlabTurn", Cond.methodLinkNest RX7 52 yX3_init "SlabTurn", Cond.methodLinkNest RX7 57 yX5_init "SlabTurn", Cond.methodLinkNest RX7 62 yX2_init "SlabTurn", Cond.methodLinkNest RX7 69 yX1_init "SlabTurn", Cond.methodLinkNest RX7 88 yX4_init "SlabTurn", Cond.methodLinkNest RX7 89 yX6_init "SlabTurn", Cond.methodLinkNest RX3 76 yX7_within "SlabTurn", Cond.methodLinkNest RX0 169 yX7_within "SlabTurn", Cond.methodLinkNest RX1 16 yX7_within "SlabTurn", Cond.methodLinkNest RX1 39 yX7_isIn "SlabTurn"]
theorem nest_tab : ∀ w ∈ nestWs, w.onTables = true := by
  intro w h
  simp only [nestWs, List.mem_cons, List.not_mem_nil, or_false] at h
  rcases h with rfl | rfl | rfl | rfl | rfl | rfl | rfl | rfl | rfl | rfl | rfl | rfl <;> rfl
theorem nest_warm {s U : State} (hW : s.WarmedH U.vm) : ∀ w ∈ nestWs, va_Nw w s → va_Nw w U := by
  intro w h hz
  simp only [nestWs, List.mem_cons, List.not_mem_nil, or_false] at h
  rcases h with rfl | rfl | rfl | rfl | rfl | rfl | rfl | rfl | rfl | rfl | rfl | rfl <;> exact va_Nw.warmM hW hz
abbrev NP : Nat := 254
abbrev NO : Nat := 248
abbrev NB : Nat := 124
def kdL : List Nat := [7, 14, 16, 15, 13, 0, 10, 10, 10, 10, 10, 10, 2, 10, 10, 10, 12, 0, 10, 10, 10, 10, 10, 10, 2, 10, 10, 10, 0, 10, 10, 10, 10, 10, 10, 2, 10, 10, 10, 3, 5, 2, 10, 10, 10, 1, 10, 10, 10, 10, 10, 4, 10, 4, 10, 4, 10, 4, 10, 4, 10, 4, 10, 6, 9, 6, 9, 6, 9, 6, 9, 5, 5, 5, 5, 2, 10, 10, 10, 2, 10, 10, 10, 2, 10, 10, 10, 2, 10, 10, 10, 0, 10, 10, 10, 10, 10, 10, 2, 10, 10, 10, 0, 10, 10, 10, 10, 10, 10, 2, 10, 10, 10, 0, 10, 10, 10, 10, 10, 10, 2, 10, 10, 10, 7, 14, 16, 15, 13, 0, 10, 10, 10, 10, 10, 10, 2, 10, 10, 10, 12, 0, 10, 10, 10, 10, 10, 10, 2, 10, 10, 10, 0, 10, 10, 10, 10, 10, 10, 2, 10, 10, 10, 3, 5, 2, 10, 10, 10, 1, 10, 10, 10, 10, 10, 4, 10, 4, 10, 4, 10, 4, 10, 4, 10, 4, 10, 6, 9, 6, 9, 6, 9, 6, 9, 5, 5, 5, 5, 2, 10, 10, 10, 2, 10, 10, 10, 2, 10, 10, 10, 2, 10, 10, 10, 0, 10, 10, 10, 10, 10, 10, 2, 10, 10, 10, 0, 10, 10, 10, 10, 10, 10, 2, 10, 10, 10, 0, 10, 10, 10, 10, 10, 10, 2, 10, 10, 10, 17, 17, 17, 17, 17, 17]
def lnL : List Nat := [0, 6, 4, 4, 4, 0, 20, 20, 20, 20, 2, 2, 0, 12, 12, 12, 3, 0, 20, 20, 20, 20, 2, 2, 0, 12, 12, 12, 0, 20, 20, 20, 20, 2, 2, 0, 12, 12, 12, 0, 0, 0, 12, 12, 12, 0, 64, 4, 16, 21, 6, 0, 40, 0, 40, 0, 40, 0, 40, 0, 40, 0, 40, 0, 80, 0, 80, 0, 80, 0, 80, 0, 0, 0, 0, 0, 12, 12, 12, 0, 12, 12, 12, 0, 12, 12, 12, 0, 12, 12, 12, 0, 20, 20, 20, 20, 2, 2, 0, 12, 12, 12, 0, 20, 20, 20, 20, 2, 2, 0, 12, 12, 12, 0, 20, 20, 20, 20, 2, 2, 0, 12, 12, 12, 0, 6, 4, 4, 4, 0, 20, 20, 20, 20, 2, 2, 0, 12, 12, 12, 3, 0, 20, 20, 20, 20, 2, 2, 0, 12, 12, 12, 0, 20, 20, 20, 20, 2, 2, 0, 12, 12, 12, 0, 0, 0, 12, 12, 12, 0, 64, 4, 16, 21, 6, 0, 40, 0, 40, 0, 40, 0, 40, 0, 40, 0, 40, 0, 80, 0, 80, 0, 80, 0, 80, 0, 0, 0, 0, 0, 12, 12, 12, 0, 12, 12, 12, 0, 12, 12, 12, 0, 12, 12, 12, 0, 20, 20, 20, 20, 2, 2, 0, 12, 12, 12, 0, 20, 20, 20, 20, 2, 2, 0, 12, 12, 12, 0, 20, 20, 20, 20, 2, 2, 0, 12, 12, 12, 8, 40, 40, 24, 24, 8]
def kd (p : Nat) : Nat := kdL.getD p 99
def ln (p : Nat) : Nat := lnL.getD p 0
def rb : Nat → Nat := fun k => match k with
  | 12 => 91
  | 13 => 75
  | 14 => 51
  | 15 => 71
  | 16 => 63
  | _ => 0
def rs : Nat → Nat := fun k => match k with
  | 12 => 11
  | 13 => 4
  | 14 => 2
  | 15 => 1
  | 16 => 2
  | _ => 0
/-- where the objects of a row of references lie: behind the own object -/
def rbp (p : Nat) : Nat := rb (kd p) + (if p < NB then 0 else NB)
def fl : Nat → List (Nat × Nat) := fun k => match k with
  | 0 => [(2, 1), (2, 2), (2, 3), (2, 4), (2, 5), (2, 6), (2, 7), (0, 0), (0, 0), (0, 0), (0, 0), (0, 0), (0, 0), (0, 0), (0, 0), (0, 0), (0, 0)]
  | 1 => [(2, 1), (2, 2), (0, 0)]
  | 2 => [(2, 1), (2, 2), (2, 3), (0, 0), (0, 0), (0, 0)]
  | 3 => [(0, 0), (0, 0)]
  | 4 => [(2, 1), (0, 0)]
  | 5 => [(0, 0), (0, 0), (0, 0), (0, 0), (0, 0)]
  | 6 => [(2, 1), (0, 0)]
  | 7 => [(2, 1), (2, 2), (2, 3), (2, 4), (2, 5), (2, 16), (2, 17), (2, 28), (2, 39), (2, 40), (2, 41), (2, 45), (2, 48), (2, 49), (2, 50), (0, 0), (0, 0), (1, 0), (1, 0)]
  | 8 => []
  | _ => []
/-! the machine side, one for all: a world of numbered places, a judgement 'X' over it, a row an instruction -/
def TB : List Cond := lw_tbl.filter goodWord
theorem TB_mem {w : Cond} (i : Nat) (h : lw_tbl[i]? = some w) (hg : goodWord w = true) : w ∈ TB := List.mem_filter.mpr ⟨List.mem_of_getElem? h, hg⟩
theorem TB_in {w0 : Cond} {ws : List Cond} (h : ∀ w ∈ ws, w ∈ TB) : GoodIn (w0 :: TB) ws := fun w hw => ⟨List.mem_cons_of_mem _ (h w hw), good_of_word (List.mem_filter.mp (h w hw)).2⟩
abbrev G_ : Type := (Nat → Nat → Int32) × (Nat → Nat → Int64)
def u2 {α : Type} (f : Nat → Nat → α) (p j : Nat) (v : α) : Nat → Nat → α := fun q i => if q = p then (if i = j then v else f q i) else f q i
def sI (G : G_) (p j : Nat) (v : Int32) : G_ := (u2 G.1 p j v, G.2)
def sJ (G : G_) (p j : Nat) (v : Int64) : G_ := (G.1, u2 G.2 p j v)
theorem u2_ne {α : Type} {f : Nat → Nat → α} {p j q : Nat} {v : α} (h : q ≠ p) : u2 f p j v q = f q := by funext i; simp [u2, h]
theorem u2_self {α : Type} {f : Nat → Nat → α} {p j : Nat} {v : α} : u2 f p j v p = fun i => if i = j then v else f p i := by funext i; simp [u2]
-- checks, names, calls
def chk {α : Type} (b : Bool) (k : Option α) : Option α := if b = true then k else none
theorem chk_ok {α : Type} {b : Bool} {k : Option α} {o : α} (h : chk b k = some o) : b = true ∧ k = some o := by
  unfold chk at h
  split at h
  · next hb => exact ⟨hb, h⟩
  · cases h
def nm {α β : Type} (x : α) (k : α → β) : β := k x
theorem nm_ok {α β : Type} {x : α} {k : α → Option β} {o : β} (h : nm x k = some o) : ∀ y, y = x → k y = some o := fun y hy => by rw [hy]; exact h
def bj1 {α β : Type} (x : Option α) (k : α → Option β) : Option β := match x with
  | some a => k a
  | none => none
theorem bj1_ok {α β : Type} {x : Option α} {k : α → Option β} {o : β} (h : bj1 x k = some o) : ∃ a, x = some a ∧ k a = some o := by
  cases x with
  | none => cases h
  | some a => exact ⟨a, rfl, h⟩
def bj2 {α1 α2 β : Type} (x : Option (α1 × α2)) (k : α1 → α2 → Option β) : Option β := match x with
  | some (a, b) => k a b
  | none => none
theorem bj2_ok {α1 α2 β : Type} {x : Option (α1 × α2)} {k : α1 → α2 → Option β} {o : β} (h : bj2 x k = some o) : ∃ a b, x = some (a, b) ∧ k a b = some o := by
  rcases x with _ | ⟨a, b⟩
  · cases h
  · exact ⟨a, b, rfl, h⟩
def bj3 {α1 α2 α3 β : Type} (x : Option (α1 × α2 × α3)) (k : α1 → α2 → α3 → Option β) : Option β := match x with
  | some (a, b, c) => k a b c
  | none => none
theorem bj3_ok {α1 α2 α3 β : Type} {x : Option (α1 × α2 × α3)} {k : α1 → α2 → α3 → Option β} {o : β} (h : bj3 x k = some o) : ∃ a b c, x = some (a, b, c) ∧ k a b c = some o := by
  rcases x with _ | ⟨a, b, c⟩
  · cases h
  · exact ⟨a, b, c, rfl, h⟩
def bj4 {α1 α2 α3 α4 β : Type} (x : Option (α1 × α2 × α3 × α4)) (k : α1 → α2 → α3 → α4 → Option β) : Option β := match x with
  | some (a, b, c, d) => k a b c d
  | none => none
theorem bj4_ok {α1 α2 α3 α4 β : Type} {x : Option (α1 × α2 × α3 × α4)} {k : α1 → α2 → α3 → α4 → Option β} {o : β} (h : bj4 x k = some o) : ∃ a b c d, x = some (a, b, c, d) ∧ k a b c d = some o := by
  rcases x with _ | ⟨a, b, c, d⟩
  · cases h
  · exact ⟨a, b, c, d, rfl, h⟩
def bj5 {α1 α2 α3 α4 α5 β : Type} (x : Option (α1 × α2 × α3 × α4 × α5)) (k : α1 → α2 → α3 → α4 → α5 → Option β) : Option β := match x with
  | some (a, b, c, d, e) => k a b c d e
  | none => none
theorem bj5_ok {α1 α2 α3 α4 α5 β : Type} {x : Option (α1 × α2 × α3 × α4 × α5)} {k : α1 → α2 → α3 → α4 → α5 → Option β} {o : β} (h : bj5 x k = some o) : ∃ a b c d e, x = some (a, b, c, d, e) ∧ k a b c d e = some o := by
  rcases x with _ | ⟨a, b, c, d, e⟩
  · cases h
  · exact ⟨a, b, c, d, e, rfl, h⟩
def bj6 {α1 α2 α3 α4 α5 α6 β : Type} (x : Option (α1 × α2 × α3 × α4 × α5 × α6)) (k : α1 → α2 → α3 → α4 → α5 → α6 → Option β) : Option β := match x with
  | some (a, b, c, d, e, f) => k a b c d e f
  | none => none
theorem bj6_ok {α1 α2 α3 α4 α5 α6 β : Type} {x : Option (α1 × α2 × α3 × α4 × α5 × α6)} {k : α1 → α2 → α3 → α4 → α5 → α6 → Option β} {o : β} (h : bj6 x k = some o) : ∃ a b c d e f, x = some (a, b, c, d, e, f) ∧ k a b c d e f = some o := by
  rcases x with _ | ⟨a, b, c, d, e, f⟩
  · cases h
  · exact ⟨a, b, c, d, e, f, rfl, h⟩
/-- a region that may return: left, its answer; right, on it goes -/
def bjr {ρ α β : Type} (x : Option (ρ ⊕ α)) (k : α → Option β) (r : ρ → Option β) : Option β := match x with
  | some (.inl a) => r a
  | some (.inr a) => k a
  | none => none
theorem bjr_ok {ρ α β : Type} {x : Option (ρ ⊕ α)} {k : α → Option β} {r : ρ → Option β} {o : β} (h : bjr x k r = some o) : ∃ t, x = some t ∧ (match t with | .inl a => r a | .inr a => k a) = some o := by
  rcases x with _ | a | a
  · cases h
  · exact ⟨_, rfl, h⟩
  · exact ⟨_, rfl, h⟩
def mo {α β : Type} (x : Option α) (n : β) (k : α → β) : β := match x with
  | some a => k a
  | none => n
theorem if_p {α : Type} {c : Prop} [Decidable c] {a b x : α} (h : (if c then a else b) = x) (hc : c) : a = x := by rw [if_pos hc] at h; exact h
theorem if_n {α : Type} {c : Prop} [Decidable c] {a b x : α} (h : (if c then a else b) = x) (hc : ¬ c) : b = x := by rw [if_neg hc] at h; exact h
/-- an index within a length -/
def inb (i : Int32) (n : Nat) : Bool := decide (0 ≤ i.toInt) && decide (i.toInt < n)
theorem inb_in {i : Int32} {n : Nat} (h : inb i n = true) : vp_in i n := by
  unfold inb at h
  rw [Bool.and_eq_true, decide_eq_true_eq, decide_eq_true_eq] at h
  exact vp_in_iff.mpr h
def ix (i : Int32) : Nat := i.toNatClampNeg
def isZ (v : Int32) : Bool := v == 0 || v == 1
theorem isZ_narrow {v : Int32} (h : isZ v = true) : narrow .boolean (.int v) = .int v ∧ fits .boolean (.int v) = true ∧ vp_nar .boolean v = v := by
  unfold isZ at h
  rw [Bool.or_eq_true, beq_iff_eq, beq_iff_eq] at h
  rcases h with rfl | rfl <;> exact ⟨rfl, rfl, rfl⟩
def FU : Nat := 1000
abbrev VT : Type := va_G × (Nat → ClassId) × (Nat → Nat) × (Nat → Prop) × Nat × Nat × Nat × Nat × Nat × (Nat → Int32)
abbrev vNL (V : VT) : Nat := V.2.2.2.2.2.2.1
abbrev vSB (V : VT) : Nat := V.2.2.2.2.2.2.2.1
abbrev vSL (V : VT) : Nat := V.2.2.2.2.2.2.2.2.1
abbrev vXS (V : VT) : Nat → Int32 := V.2.2.2.2.2.2.2.2.2
def vtys (cA : Nat → ClassId) : List (ClassId × FieldType) := [(cA 9, .byte), (cA 10, .int), (cA 11, .int), (cA 12, .object "SlabTurn$Dish"), (cA 13, .object "SlabTurn$Plan"), (cA 14, .object "SlabTurn$Row"), (cA 15, .object "SlabTurn$Slab"), (cA 16, .object "SlabTurn$Text")]
def fvl (ad : Nat → Nat) (G : G_) (p : Nat) (l : List (Nat × Nat)) : Nat → List Value := fun j => match l with
  | [] => []
  | (0, _) :: r => .int (G.1 p j) :: fvl ad G p r (j + 1)
  | (1, _) :: r => .long (G.2 p j) :: fvl ad G p r (j + 1)
  | (_, d) :: r => .ref (ad (p + d)) :: fvl ad G p r (j + 1)
def en (V : VT) (G : G_) (p : Nat) : va_E :=
  if kd p < 9 then .inr (kd p, fvl V.2.2.1 G p (fl (kd p)) 0)
  else if kd p < 12 then .inl (V.2.1 (kd p), ln p, .inl (G.1 p))
  else if kd p = 17 then .inl (V.2.1 10, ln p, .inl (G.1 p))
  else .inl (V.2.1 (kd p), ln p, .inr (.inr (.inr (.inr (fun i => some (V.2.2.1 (rbp p + rs (kd p) * i)))))))
/-- how many places there are now: the two objects', and the law's own rows as far as they are made -/
def wv_n (V : VT) : Nat := NO + min 6 (vNL V)
def wl (V : VT) (G : G_) : va_W := (List.range (wv_n V)).map (fun k => (V.2.2.1 k, en V G k))
theorem kdL_len : kdL.length = NP := by decide +kernel
theorem kd_lt0 {p c : Nat} (h : kd p = c) (hc : c < 99) : p < NP := by
  rcases Nat.lt_or_ge p NP with q | q
  · exact q
  · have : kd p = 99 := by
      unfold kd
      rw [List.getD_eq_getElem?_getD, List.getElem?_eq_none (by rw [kdL_len]; exact q)]
      rfl
    omega
theorem kd_lo : ∀ p, p < NO → kd p < 17 := by decide +kernel
theorem kd_hi : ∀ p, p < NP → NO ≤ p → kd p = 17 := by decide +kernel
/-- what isn't the law's own lies in one of the two objects -/
theorem kd_lt {p c : Nat} (h : kd p = c) (hc : c < 17) : p < NO := by
  rcases Nat.lt_or_ge p NO with q | q
  · exact q
  · have := kd_hi p (kd_lt0 h (by omega)) q
    omega
theorem wl_len (V : VT) (G : G_) : (wl V G).length = wv_n V := by rw [wl, List.length_map, List.length_range]
theorem wl_get (V : VT) (G : G_) {p : Nat} (h : p < wv_n V) : (wl V G)[p]? = some (V.2.2.1 p, en V G p) := by
  simp [wl, h]
theorem wl_set (V : VT) {G G' : G_} {p : Nat} (h : p < wv_n V) {e : va_E} (he : en V G' p = e) (hq : ∀ q, q ≠ p → en V G' q = en V G q) : (wl V G).set p (V.2.2.1 p, e) = wl V G' := by
  apply List.ext_getElem?
  intro q
  by_cases hqp : q = p
  · subst hqp
    rw [List.getElem?_set_self (by rw [wl_len]; exact h), wl_get V G' h, he]
  · rw [List.getElem?_set_ne (Ne.symm hqp)]
    by_cases hn : q < wv_n V
    · rw [wl_get V G hn, wl_get V G' hn, hq q hqp]
    · rw [List.getElem?_eq_none (by rw [wl_len]; exact Nat.le_of_not_lt hn), List.getElem?_eq_none (by rw [wl_len]; exact Nat.le_of_not_lt hn)]
theorem fvl_congr {ad : Nat → Nat} {G G' : G_} {p : Nat} (h1 : G'.1 p = G.1 p) (h2 : G'.2 p = G.2 p) : ∀ (l : List (Nat × Nat)) (j : Nat), fvl ad G' p l j = fvl ad G p l j
  | [], j => rfl
  | (0, _) :: r, j => by simp only [fvl, h1, fvl_congr h1 h2 r (j + 1)]
  | (1, _) :: r, j => by simp only [fvl, h2, fvl_congr h1 h2 r (j + 1)]
  | (_ + 2, _) :: r, j => by simp only [fvl, fvl_congr h1 h2 r (j + 1)]
theorem en_congr {V : VT} {G G' : G_} {q : Nat} (h1 : G'.1 q = G.1 q) (h2 : G'.2 q = G.2 q) : en V G' q = en V G q := by
  unfold en
  rw [fvl_congr h1 h2, h1]
theorem en_sI_ne {V : VT} {G : G_} {p j : Nat} {v : Int32} {q : Nat} (h : q ≠ p) : en V (sI G p j v) q = en V G q := en_congr (u2_ne h) rfl
theorem en_sJ_ne {V : VT} {G : G_} {p j : Nat} {v : Int64} {q : Nat} (h : q ≠ p) : en V (sJ G p j v) q = en V G q := en_congr rfl (u2_ne h)
theorem en_obj {V : VT} {G : G_} {p c : Nat} (h : kd p = c) (hc : c < 9) : en V G p = .inr (c, fvl V.2.2.1 G p (fl c) 0) := by
  unfold en
  rw [h, if_pos hc]
theorem en_arr {V : VT} {G : G_} {p c : Nat} (h : kd p = c) (hc : 9 ≤ c) (hc2 : c < 12) : en V G p = .inl (V.2.1 c, ln p, .inl (G.1 p)) := by
  unfold en
  rw [h, if_neg (by omega), if_pos hc2]
theorem en_ra {V : VT} {G : G_} {p c : Nat} (h : kd p = c) (hc : 12 ≤ c) (hc2 : c < 17) : en V G p = .inl (V.2.1 c, ln p, .inr (.inr (.inr (.inr (fun i => some (V.2.2.1 (rbp p + rs c * i))))))) := by
  unfold en
  rw [h, if_neg (by omega), if_neg (by omega), if_neg (by omega)]
theorem en_la {V : VT} {G : G_} {p : Nat} (h : kd p = 17) : en V G p = .inl (V.2.1 10, ln p, .inl (G.1 p)) := by
  unfold en
  rw [h, if_neg (by omega), if_neg (by omega), if_pos rfl]
theorem wv_lt {V : VT} {p : Nat} (h : p < NO) : p < wv_n V := Nat.lt_of_lt_of_le h (Nat.le_add_right _ _)
theorem wl_obj (V : VT) (G : G_) {p c : Nat} (h : kd p = c) (hc : c < 9) : (wl V G)[p]? = some (V.2.2.1 p, .inr (c, fvl V.2.2.1 G p (fl c) 0)) := (wl_get V G (wv_lt (kd_lt h (by omega)))).trans (by rw [en_obj h hc])
theorem wl_arr (V : VT) (G : G_) {p c : Nat} (h : kd p = c) (hc : 9 ≤ c) (hc2 : c < 12) : (wl V G)[p]? = some (V.2.2.1 p, .inl (V.2.1 c, ln p, .inl (G.1 p))) := (wl_get V G (wv_lt (kd_lt h (by omega)))).trans (by rw [en_arr h hc hc2])
theorem wl_ra (V : VT) (G : G_) {p c : Nat} (h : kd p = c) (hc : 12 ≤ c) (hc2 : c < 17) : (wl V G)[p]? = some (V.2.2.1 p, .inl (V.2.1 c, ln p, .inr (.inr (.inr (.inr (fun i => some (V.2.2.1 (rbp p + rs c * i)))))))) := (wl_get V G (wv_lt (kd_lt h (by omega)))).trans (by rw [en_ra h hc hc2])
theorem wl_la (V : VT) (G : G_) {p : Nat} (h : kd p = 17) (hl : p < wv_n V) : (wl V G)[p]? = some (V.2.2.1 p, .inl (V.2.1 10, ln p, .inl (G.1 p))) := (wl_get V G hl).trans (by rw [en_la h])
theorem fvl_get_i {ad : Nat → Nat} {G : G_} {p : Nat} : ∀ (l : List (Nat × Nat)) (j k d : Nat), l[k]? = some (0, d) → (fvl ad G p l j)[k]? = some (.int (G.1 p (j + k)))
  | [], _, _, _, h => by simp at h
  | (0, _) :: r, j, 0, _, h => by simp [fvl]
  | (1, _) :: r, j, 0, _, h => by simp at h
  | (_ + 2, _) :: r, j, 0, _, h => by simp at h
  | (0, _) :: r, j, k + 1, d, h => by
    have e := fvl_get_i (ad := ad) (G := G) (p := p) r (j + 1) k d (by simpa using h)
    simp only [fvl, List.getElem?_cons_succ]
    rw [e, show j + 1 + k = j + (k + 1) by omega]
  | (1, _) :: r, j, k + 1, d, h => by
    have e := fvl_get_i (ad := ad) (G := G) (p := p) r (j + 1) k d (by simpa using h)
    simp only [fvl, List.getElem?_cons_succ]
    rw [e, show j + 1 + k = j + (k + 1) by omega]
  | (_ + 2, _) :: r, j, k + 1, d, h => by
    have e := fvl_get_i (ad := ad) (G := G) (p := p) r (j + 1) k d (by simpa using h)
    simp only [fvl, List.getElem?_cons_succ]
    rw [e, show j + 1 + k = j + (k + 1) by omega]
theorem fvl_get_l {ad : Nat → Nat} {G : G_} {p : Nat} : ∀ (l : List (Nat × Nat)) (j k d : Nat), l[k]? = some (1, d) → (fvl ad G p l j)[k]? = some (.long (G.2 p (j + k)))
  | [], _, _, _, h => by simp at h
  | (0, _) :: r, j, 0, _, h => by simp at h
  | (1, _) :: r, j, 0, _, h => by simp [fvl]
  | (_ + 2, _) :: r, j, 0, _, h => by simp at h
  | (0, _) :: r, j, k + 1, d, h => by
    have e := fvl_get_l (ad := ad) (G := G) (p := p) r (j + 1) k d (by simpa using h)
    simp only [fvl, List.getElem?_cons_succ]
    rw [e, show j + 1 + k = j + (k + 1) by omega]
  | (1, _) :: r, j, k + 1, d, h => by
    have e := fvl_get_l (ad := ad) (G := G) (p := p) r (j + 1) k d (by simpa using h)
    simp only [fvl, List.getElem?_cons_succ]
    rw [e, show j + 1 + k = j + (k + 1) by omega]
  | (_ + 2, _) :: r, j, k + 1, d, h => by
    have e := fvl_get_l (ad := ad) (G := G) (p := p) r (j + 1) k d (by simpa using h)
    simp only [fvl, List.getElem?_cons_succ]
    rw [e, show j + 1 + k = j + (k + 1) by omega]
theorem fvl_get_r {ad : Nat → Nat} {G : G_} {p : Nat} : ∀ (l : List (Nat × Nat)) (j k d : Nat), l[k]? = some (2, d) → (fvl ad G p l j)[k]? = some (.ref (ad (p + d)))
  | [], _, _, _, h => by simp at h
  | (0, _) :: r, j, 0, _, h => by simp at h
  | (1, _) :: r, j, 0, _, h => by simp at h
  | (x + 2, y) :: r, j, 0, d, h => by
    simp at h
    simp [fvl, h.2]
  | (0, _) :: r, j, k + 1, d, h => by
    simp only [fvl, List.getElem?_cons_succ]
    exact fvl_get_r (ad := ad) (G := G) (p := p) r (j + 1) k d (by simpa using h)
  | (1, _) :: r, j, k + 1, d, h => by
    simp only [fvl, List.getElem?_cons_succ]
    exact fvl_get_r (ad := ad) (G := G) (p := p) r (j + 1) k d (by simpa using h)
  | (_ + 2, _) :: r, j, k + 1, d, h => by
    simp only [fvl, List.getElem?_cons_succ]
    exact fvl_get_r (ad := ad) (G := G) (p := p) r (j + 1) k d (by simpa using h)
theorem fvl_len {ad : Nat → Nat} {G : G_} {p : Nat} : ∀ (l : List (Nat × Nat)) (j : Nat), (fvl ad G p l j).length = l.length
  | [], _ => rfl
  | (0, _) :: r, j => by simp [fvl, fvl_len r (j + 1)]
  | (1, _) :: r, j => by simp [fvl, fvl_len r (j + 1)]
  | (_ + 2, _) :: r, j => by simp [fvl, fvl_len r (j + 1)]
theorem fvl_set_i {ad : Nat → Nat} {G : G_} {p q : Nat} {v : Int32} (l : List (Nat × Nat)) {k d : Nat} (h : l[k]? = some (0, d)) : fvl ad (sI G p k v) p l 0 = (fvl ad G p l 0).set k (.int v) := by
  apply List.ext_getElem?
  intro i
  have hl := (List.getElem?_eq_some_iff.mp h).1
  by_cases hi : i = k
  · subst hi
    rw [List.getElem?_set_self (by rw [fvl_len]; exact hl), fvl_get_i l 0 i d h]
    simp [sI, u2]
  · rw [List.getElem?_set_ne (Ne.symm hi)]
    cases hx : l[i]? with
    | none =>
      have := List.getElem?_eq_none_iff.mp hx
      rw [List.getElem?_eq_none (by rw [fvl_len]; exact this), List.getElem?_eq_none (by rw [fvl_len]; exact this)]
    | some x =>
      obtain ⟨a, b⟩ := x
      match a, hx with
      | 0, hx => rw [fvl_get_i l 0 i b hx, fvl_get_i l 0 i b hx]; simp [sI, u2, hi]
      | 1, hx => rw [fvl_get_l l 0 i b hx, fvl_get_l l 0 i b hx]; rfl
      | a + 2, hx =>
        have key : ∀ (G1 G2 : G_) (l : List (Nat × Nat)) (j i : Nat), l[i]? = some (a + 2, b) → (fvl ad G1 p l j)[i]? = (fvl ad G2 p l j)[i]? := by
          intro G1 G2 l
          induction l with
          | nil => intro j i h; simp at h
          | cons y r ih =>
            intro j i h
            obtain ⟨y1, y2⟩ := y
            cases i with
            | zero => simp at h; rw [h.1]; simp [fvl]
            | succ i =>
              match y1 with
              | 0 => simp only [fvl, List.getElem?_cons_succ]; exact ih (j + 1) i (by simpa using h)
              | 1 => simp only [fvl, List.getElem?_cons_succ]; exact ih (j + 1) i (by simpa using h)
              | _ + 2 => simp only [fvl, List.getElem?_cons_succ]; exact ih (j + 1) i (by simpa using h)
        exact key _ _ l 0 i hx
theorem fvl_set_l {ad : Nat → Nat} {G : G_} {p q : Nat} {v : Int64} (l : List (Nat × Nat)) {k d : Nat} (h : l[k]? = some (1, d)) : fvl ad (sJ G p k v) p l 0 = (fvl ad G p l 0).set k (.long v) := by
  apply List.ext_getElem?
  intro i
  have hl := (List.getElem?_eq_some_iff.mp h).1
  by_cases hi : i = k
  · subst hi
    rw [List.getElem?_set_self (by rw [fvl_len]; exact hl), fvl_get_l l 0 i d h]
    simp [sJ, u2]
  · rw [List.getElem?_set_ne (Ne.symm hi)]
    cases hx : l[i]? with
    | none =>
      have := List.getElem?_eq_none_iff.mp hx
      rw [List.getElem?_eq_none (by rw [fvl_len]; exact this), List.getElem?_eq_none (by rw [fvl_len]; exact this)]
    | some x =>
      obtain ⟨a, b⟩ := x
      match a, hx with
      | 0, hx => rw [fvl_get_i l 0 i b hx, fvl_get_i l 0 i b hx]; rfl
      | 1, hx => rw [fvl_get_l l 0 i b hx, fvl_get_l l 0 i b hx]; simp [sJ, u2, hi]
      | a + 2, hx =>
        have key : ∀ (G1 G2 : G_) (l : List (Nat × Nat)) (j i : Nat), l[i]? = some (a + 2, b) → (fvl ad G1 p l j)[i]? = (fvl ad G2 p l j)[i]? := by
          intro G1 G2 l
          induction l with
          | nil => intro j i h; simp at h
          | cons y r ih =>
            intro j i h
            obtain ⟨y1, y2⟩ := y
            cases i with
            | zero => simp at h; rw [h.1]; simp [fvl]
            | succ i =>
              match y1 with
              | 0 => simp only [fvl, List.getElem?_cons_succ]; exact ih (j + 1) i (by simpa using h)
              | 1 => simp only [fvl, List.getElem?_cons_succ]; exact ih (j + 1) i (by simpa using h)
              | _ + 2 => simp only [fvl, List.getElem?_cons_succ]; exact ih (j + 1) i (by simpa using h)
        exact key _ _ l 0 i hx
-- the world of a state
def VK (V : VT) (U : State) : Prop := va_K V.1 vwCl (vtys V.2.1) U ∧ ∀ w ∈ nestWs, va_Nw w U
def VD (V : VT) : Prop := ∀ G, va_D V.2.2.2.1 (wl V G)
def sPA : Nat → Int32 := fun j => [(-1 : Int32), 0, 0, 0, 2, 1, 3].getD j 0
def sTU : Nat → Int32 := fun j => [(1 : Int32), 2, 4, 8, 40].getD j 0
def VH (V : VT) (U : State) (H : Heap) : Prop := (va_Z "SlabTurn" "PARENT" "[I" (.ref V.2.2.2.2.1) V.2.2.2.1 U H ∧ va_T .int V.2.2.2.2.1 7 (fun j => .int (sPA j)) V.2.2.2.1 U H) ∧ (va_Z "SlabTurn" "TURNS_TRIED" "[I" (.ref V.2.2.2.2.2.1) V.2.2.2.1 U H ∧ va_T .int V.2.2.2.2.2.1 5 (fun j => .int (sTU j)) V.2.2.2.1 U H) ∧ va_T .int (vSB V) (vSL V) (fun j => .int (vXS V j)) V.2.2.2.1 U H
def VW (V : VT) (G : G_) (U : State) : Prop := VK V U ∧ VD V ∧ VH V U U.heap ∧ va_P V.1 vwCl (wl V G) U.heap
theorem VK.warm {V : VT} {s U : State} (hW : s.WarmedH U.vm) (h : VK V s) : VK V U := ⟨va_K.moved hW.alike h.1, fun w hw => nest_warm hW w hw (h.2 w hw)⟩
theorem VH.warm {V : VT} {s U : State} {H : Heap} (hW : s.WarmedH U.vm) (h : VH V s H) : VH V U H := ⟨⟨va_Z.moved hW.alike h.1.1, va_T.moved hW.alike h.1.2⟩, ⟨va_Z.moved hW.alike h.2.1.1, va_T.moved hW.alike h.2.1.2⟩, va_T.moved hW.alike h.2.2⟩
theorem VH.kept {V : VT} {s : State} {H H1 : Heap} (h : VH V s H) (hq : ∀ a : Nat, a < H.size → ¬ V.2.2.2.1 a → H1[a]? = H[a]?) : VH V s H1 := ⟨⟨va_Z.kept h.1.1 hq, va_T.kept h.1.2 hq⟩, ⟨va_Z.kept h.2.1.1 hq, va_T.kept h.2.1.2 hq⟩, va_T.kept h.2.2 hq⟩
theorem VW.calling {V : VT} {G : G_} {U : State} (g : JFrame) (mk : MethodId) (a : Array Value) (h : VW V G U) : VW V G (U.calling g mk a) := by
  obtain ⟨⟨h1, h2⟩, h3, h4, h5⟩ := h
  refine ⟨⟨va_K.moved (u := U) (U := U.calling g mk a) (Vm.Alike.refl U.vm) h1, fun w hw => va_Nw.same (nest_tab w hw) (u := U) (U := U.calling g mk a) rfl (h2 w hw)⟩, h3, ?_, h5⟩
  exact ⟨⟨va_Z.moved (u := U) (U := U.calling g mk a) (Vm.Alike.refl U.vm) h4.1.1, va_T.moved (u := U) (U := U.calling g mk a) (Vm.Alike.refl U.vm) h4.1.2⟩, ⟨va_Z.moved (u := U) (U := U.calling g mk a) (Vm.Alike.refl U.vm) h4.2.1.1, va_T.moved (u := U) (U := U.calling g mk a) (Vm.Alike.refl U.vm) h4.2.1.2⟩, va_T.moved (u := U) (U := U.calling g mk a) (Vm.Alike.refl U.vm) h4.2.2⟩
def QO (V : VT) (o : Option Value) (G' : G_) : Array Value → State → Outcome → State → Prop := fun _ st oc t => (oc = .returned o ∧ va_P V.1 vwCl (wl V G') t.heap) ∧ va_F V.2.2.2.1 st t
def MC (l : Launch) (V : VT) (y : MethodName) (cc : ByteArray) (maxL : Nat) (ret : Option FieldType) (fr lo : Nat) (av : List Value) (G : G_) (o : Option Value) (G' : G_) : Prop :=
  Met l y (Cond.code y cc maxL ret :: TB) ({ frames := fr, cells := 0, slots := 0, locals := lo }) (va_Pc av (VW V G)) (QO V o G') 0 0 V.2.2.2.1
abbrev CT : Type := Program × Launch × Env × Room × State × MethodId × Array Value × List Frame × Method × Code × Nat × VT × Nat × Nat × (State → Prop)
abbrev kl (K : CT) : Launch := K.2.1
abbrev kV (K : CT) : VT := K.2.2.2.2.2.2.2.2.2.2.2.1
def kad (K : CT) (p : Nat) : Nat := (kV K).2.2.1 p
def kst (K : CT) (i : Nat) : Nat := if i = 0 then (kV K).2.2.2.2.1 else (kV K).2.2.2.2.2.1
def rfo (K : CT) (o : Option Nat) : Value := va_rf (o.map (kad K))
def Rets (K : CT) (o : Option Value) (G' : G_) : Prop := match K with
  | (p, l, e, R, s, m, args, below, meth, c, nL, V, cells, slots, Q) => Q = MQ below (QO V o G') args s cells slots V.2.2.2.1
def X (K : CT) (pc : Nat) (L : List (Nat × Value)) (st : List Value) (G : G_) : Prop := match K with
  | (p, l, e, R, s, m, args, below, meth, c, nL, V, cells, slots, Q) => ∀ (H : Heap) (locs : List Loc) (ls : Array Slot), va_P V.1 vwCl (wl V G) H → va_S V.2.2.2.1 s.heap H locs → lv_has ls nL L → W p l e R s m args below meth c H locs cells slots Q (F0 m pc ls st)
def Ok (K : CT) (cc : ByteArray) (own : String) (Ts : List Cond) (ret : Option FieldType) (fr lo nL0 : Nat) : Prop := match K with
  | (p, l, e, R, s, m, args, below, meth, c, nL, V, cells, slots, Q) => p.tables.exec = Jvm.exec ∧ c.code = cc ∧ c.maxLocals = nL ∧ s.vm.findClass own = some m.cls ∧ (∀ w ∈ Ts, w.before args s = true) ∧ (VK V s ∧ VD V ∧ VH V s s.heap) ∧ meth.locks = false ∧ meth.sig.returnType = ret ∧ (R.frames = fr ∧ R.locals = lo ∧ cells ≤ R.cells ∧ slots ≤ R.slots) ∧ nL = nL0 ∧ ∃ w0, Ts = w0 :: TB
theorem mc_of {l : Launch} {V : VT} {y : MethodName} {cc : ByteArray} {maxL : Nat} {ret : Option FieldType} {fr lo : Nat} {av : List Value} {G : G_} {o : Option Value} {G' : G_} (hy : plainName y.cls = true) (hn : (lg_sl av).length ≤ maxL)
    (body : ∀ K : CT, kV K = V → Rets K o G' → Ok K cc y.cls (Cond.code y cc maxL ret :: TB) ret fr lo maxL → kl K = l → X K 0 (lv_args 0 av) [] G) : MC l V y cc maxL ret fr lo av G o G' := by
  refine Met.ofW (cc := cc) (maxL := maxL) (ret := ret) hy rfl ?_
  intro p e s m args below meth c s₁ B hml hv
  obtain ⟨rfl, hK, hD, hH, hP⟩ := hv
  have hk := body (p, l, e, ({ frames := fr, cells := 0, slots := 0, locals := lo } : Room), s, m, av.toArray, below, meth, c, maxL, V, 0, 0, MQ below (QO V o G') av.toArray s 0 0 V.2.2.2.1) rfl rfl ⟨B.exec, B.bytes, hml, findClass_of_methodNamed B.named, atoms_spec (ws := Cond.code y cc maxL ret :: TB) B.pre, ⟨hK, hD, hH⟩, B.notSynchronized, B.returns, ⟨rfl, rfl, Nat.le_refl _, Nat.le_refl _⟩, rfl, _, rfl⟩ rfl
  rw [lg_entry_eq]
  exact hk s.heap [] _ hP va_S.rf (lv_entry av hn)
theorem x_sub {K : CT} {pc : Nat} {L L' : List (Nat × Value)} {st : List Value} {G : G_} (ks : List Nat) (k : X K pc L' st G) (h : lv_pick L ks = L') : X K pc L st G := by
  obtain ⟨p, l, e, R, s, m, args, below, meth, c, nL, V, cells, slots, Q⟩ := K
  exact fun H locs ls hP hS hl => k H locs ls hP hS (lv_sub hl ks h)
theorem x_nmi {K : CT} {pc : Nat} {L : List (Nat × Value)} {st : List Value} {G : G_} {e : Int32} (k : ∀ x : Int32, x = e → X K pc L (.int x :: st) G) : X K pc L (.int e :: st) G := k e rfl
theorem x_nml {K : CT} {pc : Nat} {L : List (Nat × Value)} {st : List Value} {G : G_} {e : Int64} (k : ∀ x : Int64, x = e → X K pc L (.long x :: st) G) : X K pc L (.long e :: st) G := k e rfl
theorem x_nmp {K : CT} {pc : Nat} {L : List (Nat × Value)} {st : List Value} {G : G_} {e : Nat} (k : ∀ x : Nat, x = e → X K pc L (.ref (kad K x) :: st) G) : X K pc L (.ref (kad K e) :: st) G := k e rfl
theorem x_nmg {K : CT} {pc : Nat} {L : List (Nat × Value)} {st : List Value} {e : G_} (k : ∀ G : G_, G = e → X K pc L st G) : X K pc L st e := k e rfl
theorem mo_n {α β : Type} {n : β} {k : α → β} {x : β} (h : mo none n k = x) : n = x := h
theorem mo_s {α β : Type} {a : α} {n : β} {k : α → β} {x : β} (h : mo (some a) n k = x) : k a = x := h
theorem kdb {p c : Nat} (h : (kd p == c) = true) : kd p = c := eq_of_beq h
theorem in_gen {C : String} {T : u_T} {N : Nat} (idx : List Nat) (h : (List.range N).all (fun k => decide (lw_tbl[idx.getD k 0]? = some (u_lay C T k)) && goodWord (u_lay C T k)) = true) : ∀ w ∈ u_ws C T N, w ∈ TB := by
  intro w hw
  obtain ⟨k, hk, rfl⟩ := List.mem_map.mp hw
  have h1 := List.all_eq_true.mp h k hk
  rw [Bool.and_eq_true, decide_eq_true_eq] at h1
  exact TB_mem _ h1.1 h1.2
theorem sh_gen {c : Nat} (hc : c < 99) {P : Nat → Prop} (h : ∀ p, p < NP → kd p = c → P p) : ∀ {p : Nat}, kd p = c → P p := fun hp => h _ (kd_lt0 hp hc) hp
theorem x_iconst {K : CT} {cc : ByteArray} {own : String} {Ts : List Cond} {ret : Option FieldType} {fr lo nL0 pc : Nat} {L : List (Nat × Value)} {st : List Value} {G : G_} {n : Int} {v : Int32} (hc : Ok K cc own Ts ret fr lo nL0) (hv : Int32.ofInt n = v) (hd : decode cc pc = .ok (.iconst n, 1)) (k : X K (pc + 1) L (.int v :: st) G) : X K pc L (st) G := by
  obtain ⟨p, l, e, R, s, m, args, below, meth, c, nL, V, cells, slots, Q⟩ := K
  obtain ⟨hx, hb, hml, hown, hts, ⟨hK, hD, hH⟩, hlk, hr, hR, hnL, w0, hw0⟩ := hc
  exact fun H locs ls hP hS hl => lv_iconst hx hb hd hv (k H locs ls hP hS hl)
theorem x_bipush {K : CT} {cc : ByteArray} {own : String} {Ts : List Cond} {ret : Option FieldType} {fr lo nL0 pc : Nat} {L : List (Nat × Value)} {st : List Value} {G : G_} {n : Int} {v : Int32} (hc : Ok K cc own Ts ret fr lo nL0) (hv : (Int8.ofInt n).toInt32 = v) (hd : decode cc pc = .ok (.bipush n, 2)) (k : X K (pc + 2) L (.int v :: st) G) : X K pc L (st) G := by
  obtain ⟨p, l, e, R, s, m, args, below, meth, c, nL, V, cells, slots, Q⟩ := K
  obtain ⟨hx, hb, hml, hown, hts, ⟨hK, hD, hH⟩, hlk, hr, hR, hnL, w0, hw0⟩ := hc
  exact fun H locs ls hP hS hl => lv_bipush hx hb hd hv (k H locs ls hP hS hl)
theorem x_sipush {K : CT} {cc : ByteArray} {own : String} {Ts : List Cond} {ret : Option FieldType} {fr lo nL0 pc : Nat} {L : List (Nat × Value)} {st : List Value} {G : G_} {n : Int} {v : Int32} (hc : Ok K cc own Ts ret fr lo nL0) (hv : (Int16.ofInt n).toInt32 = v) (hd : decode cc pc = .ok (.sipush n, 3)) (k : X K (pc + 3) L (.int v :: st) G) : X K pc L (st) G := by
  obtain ⟨p, l, e, R, s, m, args, below, meth, c, nL, V, cells, slots, Q⟩ := K
  obtain ⟨hx, hb, hml, hown, hts, ⟨hK, hD, hH⟩, hlk, hr, hR, hnL, w0, hw0⟩ := hc
  exact fun H locs ls hP hS hl => lv_sipush hx hb hd hv (k H locs ls hP hS hl)
theorem x_lconst {K : CT} {cc : ByteArray} {own : String} {Ts : List Cond} {ret : Option FieldType} {fr lo nL0 pc : Nat} {L : List (Nat × Value)} {st : List Value} {G : G_} {n : Fin 2} {v : Int64} (hc : Ok K cc own Ts ret fr lo nL0) (hv : Int64.ofNat (n : Nat) = v) (hd : decode cc pc = .ok (.lconst n, 1)) (k : X K (pc + 1) L (.long v :: st) G) : X K pc L (st) G := by
  obtain ⟨p, l, e, R, s, m, args, below, meth, c, nL, V, cells, slots, Q⟩ := K
  obtain ⟨hx, hb, hml, hown, hts, ⟨hK, hD, hH⟩, hlk, hr, hR, hnL, w0, hw0⟩ := hc
  exact fun H locs ls hP hS hl => lv_lconst hx hb hd hv (k H locs ls hP hS hl)
theorem x_null {K : CT} {cc : ByteArray} {own : String} {Ts : List Cond} {ret : Option FieldType} {fr lo nL0 pc : Nat} {L : List (Nat × Value)} {st : List Value} {G : G_}  (hc : Ok K cc own Ts ret fr lo nL0)  (hd : decode cc pc = .ok (.aconst_null, 1)) (k : X K (pc + 1) L (.null :: st) G) : X K pc L (st) G := by
  obtain ⟨p, l, e, R, s, m, args, below, meth, c, nL, V, cells, slots, Q⟩ := K
  obtain ⟨hx, hb, hml, hown, hts, ⟨hK, hD, hH⟩, hlk, hr, hR, hnL, w0, hw0⟩ := hc
  exact fun H locs ls hP hS hl => lv_null hx hb hd  (k H locs ls hP hS hl)
theorem x_iadd {K : CT} {cc : ByteArray} {own : String} {Ts : List Cond} {ret : Option FieldType} {fr lo nL0 pc : Nat} {L : List (Nat × Value)} {st : List Value} {G : G_} {x y : Int32} (hc : Ok K cc own Ts ret fr lo nL0)  (hd : decode cc pc = .ok (.iadd, 1)) (k : X K (pc + 1) L (.int (x + y) :: st) G) : X K pc L (.int y :: .int x :: st) G := by
  obtain ⟨p, l, e, R, s, m, args, below, meth, c, nL, V, cells, slots, Q⟩ := K
  obtain ⟨hx, hb, hml, hown, hts, ⟨hK, hD, hH⟩, hlk, hr, hR, hnL, w0, hw0⟩ := hc
  exact fun H locs ls hP hS hl => lv_iadd hx hb hd  (k H locs ls hP hS hl)
theorem x_isub {K : CT} {cc : ByteArray} {own : String} {Ts : List Cond} {ret : Option FieldType} {fr lo nL0 pc : Nat} {L : List (Nat × Value)} {st : List Value} {G : G_} {x y : Int32} (hc : Ok K cc own Ts ret fr lo nL0)  (hd : decode cc pc = .ok (.isub, 1)) (k : X K (pc + 1) L (.int (x - y) :: st) G) : X K pc L (.int y :: .int x :: st) G := by
  obtain ⟨p, l, e, R, s, m, args, below, meth, c, nL, V, cells, slots, Q⟩ := K
  obtain ⟨hx, hb, hml, hown, hts, ⟨hK, hD, hH⟩, hlk, hr, hR, hnL, w0, hw0⟩ := hc
  exact fun H locs ls hP hS hl => lv_isub hx hb hd  (k H locs ls hP hS hl)
theorem x_imul {K : CT} {cc : ByteArray} {own : String} {Ts : List Cond} {ret : Option FieldType} {fr lo nL0 pc : Nat} {L : List (Nat × Value)} {st : List Value} {G : G_} {x y : Int32} (hc : Ok K cc own Ts ret fr lo nL0)  (hd : decode cc pc = .ok (.imul, 1)) (k : X K (pc + 1) L (.int (x * y) :: st) G) : X K pc L (.int y :: .int x :: st) G := by
  obtain ⟨p, l, e, R, s, m, args, below, meth, c, nL, V, cells, slots, Q⟩ := K
  obtain ⟨hx, hb, hml, hown, hts, ⟨hK, hD, hH⟩, hlk, hr, hR, hnL, w0, hw0⟩ := hc
  exact fun H locs ls hP hS hl => lv_imul hx hb hd  (k H locs ls hP hS hl)
theorem x_iand {K : CT} {cc : ByteArray} {own : String} {Ts : List Cond} {ret : Option FieldType} {fr lo nL0 pc : Nat} {L : List (Nat × Value)} {st : List Value} {G : G_} {x y : Int32} (hc : Ok K cc own Ts ret fr lo nL0)  (hd : decode cc pc = .ok (.iand, 1)) (k : X K (pc + 1) L (.int (x &&& y) :: st) G) : X K pc L (.int y :: .int x :: st) G := by
  obtain ⟨p, l, e, R, s, m, args, below, meth, c, nL, V, cells, slots, Q⟩ := K
  obtain ⟨hx, hb, hml, hown, hts, ⟨hK, hD, hH⟩, hlk, hr, hR, hnL, w0, hw0⟩ := hc
  exact fun H locs ls hP hS hl => lv_iand hx hb hd  (k H locs ls hP hS hl)
theorem x_ior {K : CT} {cc : ByteArray} {own : String} {Ts : List Cond} {ret : Option FieldType} {fr lo nL0 pc : Nat} {L : List (Nat × Value)} {st : List Value} {G : G_} {x y : Int32} (hc : Ok K cc own Ts ret fr lo nL0)  (hd : decode cc pc = .ok (.ior, 1)) (k : X K (pc + 1) L (.int (x ||| y) :: st) G) : X K pc L (.int y :: .int x :: st) G := by
  obtain ⟨p, l, e, R, s, m, args, below, meth, c, nL, V, cells, slots, Q⟩ := K
  obtain ⟨hx, hb, hml, hown, hts, ⟨hK, hD, hH⟩, hlk, hr, hR, hnL, w0, hw0⟩ := hc
  exact fun H locs ls hP hS hl => lv_ior hx hb hd  (k H locs ls hP hS hl)
theorem x_ixor {K : CT} {cc : ByteArray} {own : String} {Ts : List Cond} {ret : Option FieldType} {fr lo nL0 pc : Nat} {L : List (Nat × Value)} {st : List Value} {G : G_} {x y : Int32} (hc : Ok K cc own Ts ret fr lo nL0)  (hd : decode cc pc = .ok (.ixor, 1)) (k : X K (pc + 1) L (.int (x ^^^ y) :: st) G) : X K pc L (.int y :: .int x :: st) G := by
  obtain ⟨p, l, e, R, s, m, args, below, meth, c, nL, V, cells, slots, Q⟩ := K
  obtain ⟨hx, hb, hml, hown, hts, ⟨hK, hD, hH⟩, hlk, hr, hR, hnL, w0, hw0⟩ := hc
  exact fun H locs ls hP hS hl => lv_ixor hx hb hd  (k H locs ls hP hS hl)
theorem x_ishl {K : CT} {cc : ByteArray} {own : String} {Ts : List Cond} {ret : Option FieldType} {fr lo nL0 pc : Nat} {L : List (Nat × Value)} {st : List Value} {G : G_} {x y : Int32} (hc : Ok K cc own Ts ret fr lo nL0)  (hd : decode cc pc = .ok (.ishl, 1)) (k : X K (pc + 1) L (.int (x <<< (y &&& 31)) :: st) G) : X K pc L (.int y :: .int x :: st) G := by
  obtain ⟨p, l, e, R, s, m, args, below, meth, c, nL, V, cells, slots, Q⟩ := K
  obtain ⟨hx, hb, hml, hown, hts, ⟨hK, hD, hH⟩, hlk, hr, hR, hnL, w0, hw0⟩ := hc
  exact fun H locs ls hP hS hl => lv_ishl hx hb hd  (k H locs ls hP hS hl)
theorem x_ishr {K : CT} {cc : ByteArray} {own : String} {Ts : List Cond} {ret : Option FieldType} {fr lo nL0 pc : Nat} {L : List (Nat × Value)} {st : List Value} {G : G_} {x y : Int32} (hc : Ok K cc own Ts ret fr lo nL0)  (hd : decode cc pc = .ok (.ishr, 1)) (k : X K (pc + 1) L (.int (x >>> (y &&& 31)) :: st) G) : X K pc L (.int y :: .int x :: st) G := by
  obtain ⟨p, l, e, R, s, m, args, below, meth, c, nL, V, cells, slots, Q⟩ := K
  obtain ⟨hx, hb, hml, hown, hts, ⟨hK, hD, hH⟩, hlk, hr, hR, hnL, w0, hw0⟩ := hc
  exact fun H locs ls hP hS hl => lv_ishr hx hb hd  (k H locs ls hP hS hl)
theorem x_ladd {K : CT} {cc : ByteArray} {own : String} {Ts : List Cond} {ret : Option FieldType} {fr lo nL0 pc : Nat} {L : List (Nat × Value)} {st : List Value} {G : G_} {x y : Int64} (hc : Ok K cc own Ts ret fr lo nL0)  (hd : decode cc pc = .ok (.ladd, 1)) (k : X K (pc + 1) L (.long (x + y) :: st) G) : X K pc L (.long y :: .long x :: st) G := by
  obtain ⟨p, l, e, R, s, m, args, below, meth, c, nL, V, cells, slots, Q⟩ := K
  obtain ⟨hx, hb, hml, hown, hts, ⟨hK, hD, hH⟩, hlk, hr, hR, hnL, w0, hw0⟩ := hc
  exact fun H locs ls hP hS hl => lv_ladd hx hb hd  (k H locs ls hP hS hl)
theorem x_lsub {K : CT} {cc : ByteArray} {own : String} {Ts : List Cond} {ret : Option FieldType} {fr lo nL0 pc : Nat} {L : List (Nat × Value)} {st : List Value} {G : G_} {x y : Int64} (hc : Ok K cc own Ts ret fr lo nL0)  (hd : decode cc pc = .ok (.lsub, 1)) (k : X K (pc + 1) L (.long (x - y) :: st) G) : X K pc L (.long y :: .long x :: st) G := by
  obtain ⟨p, l, e, R, s, m, args, below, meth, c, nL, V, cells, slots, Q⟩ := K
  obtain ⟨hx, hb, hml, hown, hts, ⟨hK, hD, hH⟩, hlk, hr, hR, hnL, w0, hw0⟩ := hc
  exact fun H locs ls hP hS hl => lv_lsub hx hb hd  (k H locs ls hP hS hl)
theorem x_lmul {K : CT} {cc : ByteArray} {own : String} {Ts : List Cond} {ret : Option FieldType} {fr lo nL0 pc : Nat} {L : List (Nat × Value)} {st : List Value} {G : G_} {x y : Int64} (hc : Ok K cc own Ts ret fr lo nL0)  (hd : decode cc pc = .ok (.lmul, 1)) (k : X K (pc + 1) L (.long (x * y) :: st) G) : X K pc L (.long y :: .long x :: st) G := by
  obtain ⟨p, l, e, R, s, m, args, below, meth, c, nL, V, cells, slots, Q⟩ := K
  obtain ⟨hx, hb, hml, hown, hts, ⟨hK, hD, hH⟩, hlk, hr, hR, hnL, w0, hw0⟩ := hc
  exact fun H locs ls hP hS hl => lv_lmul hx hb hd  (k H locs ls hP hS hl)
theorem x_idiv {K : CT} {cc : ByteArray} {own : String} {Ts : List Cond} {ret : Option FieldType} {fr lo nL0 pc : Nat} {L : List (Nat × Value)} {st : List Value} {G : G_} {x y : Int32} (hc : Ok K cc own Ts ret fr lo nL0) (hne : ¬ y = 0) (hd : decode cc pc = .ok (.idiv, 1)) (k : X K (pc + 1) L (.int (x / y) :: st) G) : X K pc L (.int y :: .int x :: st) G := by
  obtain ⟨p, l, e, R, s, m, args, below, meth, c, nL, V, cells, slots, Q⟩ := K
  obtain ⟨hx, hb, hml, hown, hts, ⟨hK, hD, hH⟩, hlk, hr, hR, hnL, w0, hw0⟩ := hc
  exact fun H locs ls hP hS hl => lv_idiv hx hb hd hne (k H locs ls hP hS hl)
theorem x_irem {K : CT} {cc : ByteArray} {own : String} {Ts : List Cond} {ret : Option FieldType} {fr lo nL0 pc : Nat} {L : List (Nat × Value)} {st : List Value} {G : G_} {x y : Int32} (hc : Ok K cc own Ts ret fr lo nL0) (hne : ¬ y = 0) (hd : decode cc pc = .ok (.irem, 1)) (k : X K (pc + 1) L (.int (x - x / y * y) :: st) G) : X K pc L (.int y :: .int x :: st) G := by
  obtain ⟨p, l, e, R, s, m, args, below, meth, c, nL, V, cells, slots, Q⟩ := K
  obtain ⟨hx, hb, hml, hown, hts, ⟨hK, hD, hH⟩, hlk, hr, hR, hnL, w0, hw0⟩ := hc
  exact fun H locs ls hP hS hl => lv_irem hx hb hd hne (k H locs ls hP hS hl)
theorem x_ldiv {K : CT} {cc : ByteArray} {own : String} {Ts : List Cond} {ret : Option FieldType} {fr lo nL0 pc : Nat} {L : List (Nat × Value)} {st : List Value} {G : G_} {x y : Int64} (hc : Ok K cc own Ts ret fr lo nL0) (hne : ¬ y = 0) (hd : decode cc pc = .ok (.ldiv, 1)) (k : X K (pc + 1) L (.long (x / y) :: st) G) : X K pc L (.long y :: .long x :: st) G := by
  obtain ⟨p, l, e, R, s, m, args, below, meth, c, nL, V, cells, slots, Q⟩ := K
  obtain ⟨hx, hb, hml, hown, hts, ⟨hK, hD, hH⟩, hlk, hr, hR, hnL, w0, hw0⟩ := hc
  exact fun H locs ls hP hS hl => lv_ldiv hx hb hd hne (k H locs ls hP hS hl)
theorem x_lrem {K : CT} {cc : ByteArray} {own : String} {Ts : List Cond} {ret : Option FieldType} {fr lo nL0 pc : Nat} {L : List (Nat × Value)} {st : List Value} {G : G_} {x y : Int64} (hc : Ok K cc own Ts ret fr lo nL0) (hne : ¬ y = 0) (hd : decode cc pc = .ok (.lrem, 1)) (k : X K (pc + 1) L (.long (x - x / y * y) :: st) G) : X K pc L (.long y :: .long x :: st) G := by
  obtain ⟨p, l, e, R, s, m, args, below, meth, c, nL, V, cells, slots, Q⟩ := K
  obtain ⟨hx, hb, hml, hown, hts, ⟨hK, hD, hH⟩, hlk, hr, hR, hnL, w0, hw0⟩ := hc
  exact fun H locs ls hP hS hl => lv_lrem hx hb hd hne (k H locs ls hP hS hl)
theorem x_ineg {K : CT} {cc : ByteArray} {own : String} {Ts : List Cond} {ret : Option FieldType} {fr lo nL0 pc : Nat} {L : List (Nat × Value)} {st : List Value} {G : G_} {x : Int32} (hc : Ok K cc own Ts ret fr lo nL0)  (hd : decode cc pc = .ok (.ineg, 1)) (k : X K (pc + 1) L (.int (0 - x) :: st) G) : X K pc L (.int x :: st) G := by
  obtain ⟨p, l, e, R, s, m, args, below, meth, c, nL, V, cells, slots, Q⟩ := K
  obtain ⟨hx, hb, hml, hown, hts, ⟨hK, hD, hH⟩, hlk, hr, hR, hnL, w0, hw0⟩ := hc
  exact fun H locs ls hP hS hl => lv_ineg hx hb hd  (k H locs ls hP hS hl)
theorem x_iushr {K : CT} {cc : ByteArray} {own : String} {Ts : List Cond} {ret : Option FieldType} {fr lo nL0 pc : Nat} {L : List (Nat × Value)} {st : List Value} {G : G_} {x y : Int32} (hc : Ok K cc own Ts ret fr lo nL0)  (hd : decode cc pc = .ok (.iushr, 1)) (k : X K (pc + 1) L (.int ((x.toUInt32 >>> (y.toUInt32 &&& Int32.toUInt32 31)).toInt32) :: st) G) : X K pc L (.int y :: .int x :: st) G := by
  obtain ⟨p, l, e, R, s, m, args, below, meth, c, nL, V, cells, slots, Q⟩ := K
  obtain ⟨hx, hb, hml, hown, hts, ⟨hK, hD, hH⟩, hlk, hr, hR, hnL, w0, hw0⟩ := hc
  exact fun H locs ls hP hS hl => lv_iushr hx hb hd rfl (k H locs ls hP hS hl)
theorem x_i2l {K : CT} {cc : ByteArray} {own : String} {Ts : List Cond} {ret : Option FieldType} {fr lo nL0 pc : Nat} {L : List (Nat × Value)} {st : List Value} {G : G_} {x : Int32} (hc : Ok K cc own Ts ret fr lo nL0)  (hd : decode cc pc = .ok (.i2l, 1)) (k : X K (pc + 1) L (.long x.toInt64 :: st) G) : X K pc L (.int x :: st) G := by
  obtain ⟨p, l, e, R, s, m, args, below, meth, c, nL, V, cells, slots, Q⟩ := K
  obtain ⟨hx, hb, hml, hown, hts, ⟨hK, hD, hH⟩, hlk, hr, hR, hnL, w0, hw0⟩ := hc
  exact fun H locs ls hP hS hl => lv_i2l hx hb hd rfl (k H locs ls hP hS hl)
theorem x_l2i {K : CT} {cc : ByteArray} {own : String} {Ts : List Cond} {ret : Option FieldType} {fr lo nL0 pc : Nat} {L : List (Nat × Value)} {st : List Value} {G : G_} {x : Int64} (hc : Ok K cc own Ts ret fr lo nL0)  (hd : decode cc pc = .ok (.l2i, 1)) (k : X K (pc + 1) L (.int x.toInt32 :: st) G) : X K pc L (.long x :: st) G := by
  obtain ⟨p, l, e, R, s, m, args, below, meth, c, nL, V, cells, slots, Q⟩ := K
  obtain ⟨hx, hb, hml, hown, hts, ⟨hK, hD, hH⟩, hlk, hr, hR, hnL, w0, hw0⟩ := hc
  exact fun H locs ls hP hS hl => lv_l2i hx hb hd rfl (k H locs ls hP hS hl)
theorem x_i2b {K : CT} {cc : ByteArray} {own : String} {Ts : List Cond} {ret : Option FieldType} {fr lo nL0 pc : Nat} {L : List (Nat × Value)} {st : List Value} {G : G_} {x : Int32} (hc : Ok K cc own Ts ret fr lo nL0)  (hd : decode cc pc = .ok (.i2b, 1)) (k : X K (pc + 1) L (.int x.toInt8.toInt32 :: st) G) : X K pc L (.int x :: st) G := by
  obtain ⟨p, l, e, R, s, m, args, below, meth, c, nL, V, cells, slots, Q⟩ := K
  obtain ⟨hx, hb, hml, hown, hts, ⟨hK, hD, hH⟩, hlk, hr, hR, hnL, w0, hw0⟩ := hc
  exact fun H locs ls hP hS hl => lv_i2b hx hb hd rfl (k H locs ls hP hS hl)
theorem x_dup {K : CT} {cc : ByteArray} {own : String} {Ts : List Cond} {ret : Option FieldType} {fr lo nL0 pc : Nat} {L : List (Nat × Value)} {st : List Value} {G : G_} {va : Value} (hc : Ok K cc own Ts ret fr lo nL0) (hva : va.category = 1) (hd : decode cc pc = .ok (.dup, 1)) (k : X K (pc + 1) L (va :: va :: st) G) : X K pc L (va :: st) G := by
  obtain ⟨p, l, e, R, s, m, args, below, meth, c, nL, V, cells, slots, Q⟩ := K
  obtain ⟨hx, hb, hml, hown, hts, ⟨hK, hD, hH⟩, hlk, hr, hR, hnL, w0, hw0⟩ := hc
  exact fun H locs ls hP hS hl => lv_dup hx hb hd hva (k H locs ls hP hS hl)
theorem x_pop {K : CT} {cc : ByteArray} {own : String} {Ts : List Cond} {ret : Option FieldType} {fr lo nL0 pc : Nat} {L : List (Nat × Value)} {st : List Value} {G : G_} {va : Value} (hc : Ok K cc own Ts ret fr lo nL0) (hva : va.category = 1) (hd : decode cc pc = .ok (.pop, 1)) (k : X K (pc + 1) L (st) G) : X K pc L (va :: st) G := by
  obtain ⟨p, l, e, R, s, m, args, below, meth, c, nL, V, cells, slots, Q⟩ := K
  obtain ⟨hx, hb, hml, hown, hts, ⟨hK, hD, hH⟩, hlk, hr, hR, hnL, w0, hw0⟩ := hc
  exact fun H locs ls hP hS hl => lv_pop hx hb hd hva (k H locs ls hP hS hl)
theorem x_dup2 {K : CT} {cc : ByteArray} {own : String} {Ts : List Cond} {ret : Option FieldType} {fr lo nL0 pc : Nat} {L : List (Nat × Value)} {st : List Value} {G : G_} {va vb : Value} (hc : Ok K cc own Ts ret fr lo nL0) (hva : va.category = 1) (hvb : vb.category = 1) (hd : decode cc pc = .ok (.dup2, 1)) (k : X K (pc + 1) L (vb :: va :: vb :: va :: st) G) : X K pc L (vb :: va :: st) G := by
  obtain ⟨p, l, e, R, s, m, args, below, meth, c, nL, V, cells, slots, Q⟩ := K
  obtain ⟨hx, hb, hml, hown, hts, ⟨hK, hD, hH⟩, hlk, hr, hR, hnL, w0, hw0⟩ := hc
  exact fun H locs ls hP hS hl => lv_dup2_11 hx hb hd hvb hva (k H locs ls hP hS hl)
theorem x_lcmp {K : CT} {cc : ByteArray} {own : String} {Ts : List Cond} {ret : Option FieldType} {fr lo nL0 pc : Nat} {L : List (Nat × Value)} {st : List Value} {G : G_} {x y : Int64} (hc : Ok K cc own Ts ret fr lo nL0)  (hd : decode cc pc = .ok (.lcmp, 1)) (k : X K (pc + 1) L (.int (lg_cmp x y) :: st) G) : X K pc L (.long y :: .long x :: st) G := by
  obtain ⟨p, l, e, R, s, m, args, below, meth, c, nL, V, cells, slots, Q⟩ := K
  obtain ⟨hx, hb, hml, hown, hts, ⟨hK, hD, hH⟩, hlk, hr, hR, hnL, w0, hw0⟩ := hc
  exact fun H locs ls hP hS hl => W.lcmp hx hb hd  (k H locs ls hP hS hl)
theorem x_iload_n {K : CT} {cc : ByteArray} {own : String} {Ts : List Cond} {ret : Option FieldType} {fr lo nL0 pc : Nat} {L : List (Nat × Value)} {st : List Value} {G : G_} {j : Fin 4} {i : Nat} {x : Int32} (hc : Ok K cc own Ts ret fr lo nL0) (q : Nat) (hd : decode cc pc = .ok (.iload_n j, 1)) (hi : (j : Nat) = i) (hq : L[q]? = some (i, .int x)) (k : X K (pc + 1) L (.int x :: st) G) : X K pc L st G := by
  obtain ⟨p, l, e, R, s, m, args, below, meth, c, nL, V, cells, slots, Q⟩ := K
  obtain ⟨hx, hb, hml, hown, hts, ⟨hK, hD, hH⟩, hlk, hr, hR, hnL, w0, hw0⟩ := hc
  exact fun H locs ls hP hS hl => lv_iload_n hx hb hd hi (lv_at hl q hq) (k H locs ls hP hS hl)
theorem x_iload {K : CT} {cc : ByteArray} {own : String} {Ts : List Cond} {ret : Option FieldType} {fr lo nL0 pc : Nat} {L : List (Nat × Value)} {st : List Value} {G : G_} {i : Nat} {x : Int32} (hc : Ok K cc own Ts ret fr lo nL0) (q : Nat) (hd : decode cc pc = .ok (.iload i, 2)) (hq : L[q]? = some (i, .int x)) (k : X K (pc + 2) L (.int x :: st) G) : X K pc L st G := by
  obtain ⟨p, l, e, R, s, m, args, below, meth, c, nL, V, cells, slots, Q⟩ := K
  obtain ⟨hx, hb, hml, hown, hts, ⟨hK, hD, hH⟩, hlk, hr, hR, hnL, w0, hw0⟩ := hc
  exact fun H locs ls hP hS hl => lv_iload hx hb hd (lv_at hl q hq) (k H locs ls hP hS hl)
theorem x_lload_n {K : CT} {cc : ByteArray} {own : String} {Ts : List Cond} {ret : Option FieldType} {fr lo nL0 pc : Nat} {L : List (Nat × Value)} {st : List Value} {G : G_} {j : Fin 4} {i : Nat} {x : Int64} (hc : Ok K cc own Ts ret fr lo nL0) (q : Nat) (hd : decode cc pc = .ok (.lload_n j, 1)) (hi : (j : Nat) = i) (hq : L[q]? = some (i, .long x)) (k : X K (pc + 1) L (.long x :: st) G) : X K pc L st G := by
  obtain ⟨p, l, e, R, s, m, args, below, meth, c, nL, V, cells, slots, Q⟩ := K
  obtain ⟨hx, hb, hml, hown, hts, ⟨hK, hD, hH⟩, hlk, hr, hR, hnL, w0, hw0⟩ := hc
  exact fun H locs ls hP hS hl => lv_lload_n hx hb hd hi (lv_at hl q hq) (k H locs ls hP hS hl)
theorem x_lload {K : CT} {cc : ByteArray} {own : String} {Ts : List Cond} {ret : Option FieldType} {fr lo nL0 pc : Nat} {L : List (Nat × Value)} {st : List Value} {G : G_} {i : Nat} {x : Int64} (hc : Ok K cc own Ts ret fr lo nL0) (q : Nat) (hd : decode cc pc = .ok (.lload i, 2)) (hq : L[q]? = some (i, .long x)) (k : X K (pc + 2) L (.long x :: st) G) : X K pc L st G := by
  obtain ⟨p, l, e, R, s, m, args, below, meth, c, nL, V, cells, slots, Q⟩ := K
  obtain ⟨hx, hb, hml, hown, hts, ⟨hK, hD, hH⟩, hlk, hr, hR, hnL, w0, hw0⟩ := hc
  exact fun H locs ls hP hS hl => lv_lload hx hb hd (lv_at hl q hq) (k H locs ls hP hS hl)
theorem x_aload_n {K : CT} {cc : ByteArray} {own : String} {Ts : List Cond} {ret : Option FieldType} {fr lo nL0 pc : Nat} {L : List (Nat × Value)} {st : List Value} {G : G_} {j : Fin 4} {i : Nat} {x : Nat} (hc : Ok K cc own Ts ret fr lo nL0) (q : Nat) (hd : decode cc pc = .ok (.aload_n j, 1)) (hi : (j : Nat) = i) (hq : L[q]? = some (i, .ref x)) (k : X K (pc + 1) L (.ref x :: st) G) : X K pc L st G := by
  obtain ⟨p, l, e, R, s, m, args, below, meth, c, nL, V, cells, slots, Q⟩ := K
  obtain ⟨hx, hb, hml, hown, hts, ⟨hK, hD, hH⟩, hlk, hr, hR, hnL, w0, hw0⟩ := hc
  exact fun H locs ls hP hS hl => lv_aload_n hx hb hd hi (lv_at hl q hq) (k H locs ls hP hS hl)
theorem x_aload {K : CT} {cc : ByteArray} {own : String} {Ts : List Cond} {ret : Option FieldType} {fr lo nL0 pc : Nat} {L : List (Nat × Value)} {st : List Value} {G : G_} {i : Nat} {x : Nat} (hc : Ok K cc own Ts ret fr lo nL0) (q : Nat) (hd : decode cc pc = .ok (.aload i, 2)) (hq : L[q]? = some (i, .ref x)) (k : X K (pc + 2) L (.ref x :: st) G) : X K pc L st G := by
  obtain ⟨p, l, e, R, s, m, args, below, meth, c, nL, V, cells, slots, Q⟩ := K
  obtain ⟨hx, hb, hml, hown, hts, ⟨hK, hD, hH⟩, hlk, hr, hR, hnL, w0, hw0⟩ := hc
  exact fun H locs ls hP hS hl => lv_aload hx hb hd (lv_at hl q hq) (k H locs ls hP hS hl)
theorem x_aload_nN {K : CT} {cc : ByteArray} {own : String} {Ts : List Cond} {ret : Option FieldType} {fr lo nL0 pc : Nat} {L : List (Nat × Value)} {st : List Value} {G : G_} {j : Fin 4} {i : Nat} (hc : Ok K cc own Ts ret fr lo nL0) (q : Nat) (hd : decode cc pc = .ok (.aload_n j, 1)) (hi : (j : Nat) = i) (hq : L[q]? = some (i, .null)) (k : X K (pc + 1) L (.null :: st) G) : X K pc L st G := by
  obtain ⟨p, l, e, R, s, m, args, below, meth, c, nL, V, cells, slots, Q⟩ := K
  obtain ⟨hx, hb, hml, hown, hts, ⟨hK, hD, hH⟩, hlk, hr, hR, hnL, w0, hw0⟩ := hc
  exact fun H locs ls hP hS hl => lv_aload_nN hx hb hd hi (lv_at hl q hq) (k H locs ls hP hS hl)
theorem x_aloadN {K : CT} {cc : ByteArray} {own : String} {Ts : List Cond} {ret : Option FieldType} {fr lo nL0 pc : Nat} {L : List (Nat × Value)} {st : List Value} {G : G_} {i : Nat} (hc : Ok K cc own Ts ret fr lo nL0) (q : Nat) (hd : decode cc pc = .ok (.aload i, 2)) (hq : L[q]? = some (i, .null)) (k : X K (pc + 2) L (.null :: st) G) : X K pc L st G := by
  obtain ⟨p, l, e, R, s, m, args, below, meth, c, nL, V, cells, slots, Q⟩ := K
  obtain ⟨hx, hb, hml, hown, hts, ⟨hK, hD, hH⟩, hlk, hr, hR, hnL, w0, hw0⟩ := hc
  exact fun H locs ls hP hS hl => lv_aloadN hx hb hd (lv_at hl q hq) (k H locs ls hP hS hl)
theorem x_aload_nO {K : CT} {cc : ByteArray} {own : String} {Ts : List Cond} {ret : Option FieldType} {fr lo nL0 pc : Nat} {L : List (Nat × Value)} {st : List Value} {G : G_} {j : Fin 4} {i : Nat} {o : Option Nat} (hc : Ok K cc own Ts ret fr lo nL0) (q : Nat) (hd : decode cc pc = .ok (.aload_n j, 1)) (hi : (j : Nat) = i) (hq : L[q]? = some (i, rfo K o)) (k : X K (pc + 1) L (rfo K o :: st) G) : X K pc L st G := by
  cases o with
  | none => exact x_aload_nN hc q hd hi hq k
  | some y => exact x_aload_n hc q hd hi hq k
theorem x_aloadO {K : CT} {cc : ByteArray} {own : String} {Ts : List Cond} {ret : Option FieldType} {fr lo nL0 pc : Nat} {L : List (Nat × Value)} {st : List Value} {G : G_} {i : Nat} {o : Option Nat} (hc : Ok K cc own Ts ret fr lo nL0) (q : Nat) (hd : decode cc pc = .ok (.aload i, 2)) (hq : L[q]? = some (i, rfo K o)) (k : X K (pc + 2) L (rfo K o :: st) G) : X K pc L st G := by
  cases o with
  | none => exact x_aloadN hc q hd hq k
  | some y => exact x_aload hc q hd hq k
theorem x_istore_n {K : CT} {cc : ByteArray} {own : String} {Ts : List Cond} {ret : Option FieldType} {fr lo nL0 pc : Nat} {L : List (Nat × Value)} {st : List Value} {G : G_} {j : Fin 4} {i : Nat} {x : Int32} {L' : List (Nat × Value)} (hc : Ok K cc own Ts ret fr lo nL0) (ks : List Nat) (hd : decode cc pc = .ok (.istore_n j, 1)) (hi : (j : Nat) = i) (hn : i < nL0) (hL : lv_pick ((i, Value.int x) :: L.filter (fun q => !(q.1 == i) && !(q.1 + 1 == i && q.2.category == 2))) ks = L') (k : X K (pc + 1) L' st G) : X K pc L (.int x :: st) G := by
  obtain ⟨p, l, e, R, s, m, args, below, meth, c, nL, V, cells, slots, Q⟩ := K
  obtain ⟨hx, hb, hml, hown, hts, ⟨hK, hD, hH⟩, hlk, hr, hR, hnL, w0, hw0⟩ := hc
  subst hnL
  exact fun H locs ls hP hS hl => lv_istore_n hx hb hd hi hl hn rfl (fun ls hl => k H locs ls hP hS (lv_sub hl ks hL))
theorem x_istore {K : CT} {cc : ByteArray} {own : String} {Ts : List Cond} {ret : Option FieldType} {fr lo nL0 pc : Nat} {L : List (Nat × Value)} {st : List Value} {G : G_} {i : Nat} {x : Int32} {L' : List (Nat × Value)} (hc : Ok K cc own Ts ret fr lo nL0) (ks : List Nat) (hd : decode cc pc = .ok (.istore i, 2)) (hn : i < nL0) (hL : lv_pick ((i, Value.int x) :: L.filter (fun q => !(q.1 == i) && !(q.1 + 1 == i && q.2.category == 2))) ks = L') (k : X K (pc + 2) L' st G) : X K pc L (.int x :: st) G := by
  obtain ⟨p, l, e, R, s, m, args, below, meth, c, nL, V, cells, slots, Q⟩ := K
  obtain ⟨hx, hb, hml, hown, hts, ⟨hK, hD, hH⟩, hlk, hr, hR, hnL, w0, hw0⟩ := hc
  subst hnL
  exact fun H locs ls hP hS hl => lv_istore hx hb hd hl hn rfl (fun ls hl => k H locs ls hP hS (lv_sub hl ks hL))
theorem x_lstore_n {K : CT} {cc : ByteArray} {own : String} {Ts : List Cond} {ret : Option FieldType} {fr lo nL0 pc : Nat} {L : List (Nat × Value)} {st : List Value} {G : G_} {j : Fin 4} {i : Nat} {x : Int64} {L' : List (Nat × Value)} (hc : Ok K cc own Ts ret fr lo nL0) (ks : List Nat) (hd : decode cc pc = .ok (.lstore_n j, 1)) (hi : (j : Nat) = i) (hn : i + 1 < nL0) (hL : lv_pick ((i, Value.long x) :: L.filter (fun q => !(q.1 == i) && (!(q.1 == i + 1) && !(q.1 + 1 == i && q.2.category == 2)))) ks = L') (k : X K (pc + 1) L' st G) : X K pc L (.long x :: st) G := by
  obtain ⟨p, l, e, R, s, m, args, below, meth, c, nL, V, cells, slots, Q⟩ := K
  obtain ⟨hx, hb, hml, hown, hts, ⟨hK, hD, hH⟩, hlk, hr, hR, hnL, w0, hw0⟩ := hc
  subst hnL
  exact fun H locs ls hP hS hl => lv_lstore_n hx hb hd hi hl hn rfl (fun ls hl => k H locs ls hP hS (lv_sub hl ks hL))
theorem x_lstore {K : CT} {cc : ByteArray} {own : String} {Ts : List Cond} {ret : Option FieldType} {fr lo nL0 pc : Nat} {L : List (Nat × Value)} {st : List Value} {G : G_} {i : Nat} {x : Int64} {L' : List (Nat × Value)} (hc : Ok K cc own Ts ret fr lo nL0) (ks : List Nat) (hd : decode cc pc = .ok (.lstore i, 2)) (hn : i + 1 < nL0) (hL : lv_pick ((i, Value.long x) :: L.filter (fun q => !(q.1 == i) && (!(q.1 == i + 1) && !(q.1 + 1 == i && q.2.category == 2)))) ks = L') (k : X K (pc + 2) L' st G) : X K pc L (.long x :: st) G := by
  obtain ⟨p, l, e, R, s, m, args, below, meth, c, nL, V, cells, slots, Q⟩ := K
  obtain ⟨hx, hb, hml, hown, hts, ⟨hK, hD, hH⟩, hlk, hr, hR, hnL, w0, hw0⟩ := hc
  subst hnL
  exact fun H locs ls hP hS hl => lv_lstore hx hb hd hl hn rfl (fun ls hl => k H locs ls hP hS (lv_sub hl ks hL))
theorem x_astore_n {K : CT} {cc : ByteArray} {own : String} {Ts : List Cond} {ret : Option FieldType} {fr lo nL0 pc : Nat} {L : List (Nat × Value)} {st : List Value} {G : G_} {j : Fin 4} {i : Nat} {x : Nat} {L' : List (Nat × Value)} (hc : Ok K cc own Ts ret fr lo nL0) (ks : List Nat) (hd : decode cc pc = .ok (.astore_n j, 1)) (hi : (j : Nat) = i) (hn : i < nL0) (hL : lv_pick ((i, Value.ref x) :: L.filter (fun q => !(q.1 == i) && !(q.1 + 1 == i && q.2.category == 2))) ks = L') (k : X K (pc + 1) L' st G) : X K pc L (.ref x :: st) G := by
  obtain ⟨p, l, e, R, s, m, args, below, meth, c, nL, V, cells, slots, Q⟩ := K
  obtain ⟨hx, hb, hml, hown, hts, ⟨hK, hD, hH⟩, hlk, hr, hR, hnL, w0, hw0⟩ := hc
  subst hnL
  exact fun H locs ls hP hS hl => lv_astore_n hx hb hd hi hl hn rfl (fun ls hl => k H locs ls hP hS (lv_sub hl ks hL))
theorem x_astore {K : CT} {cc : ByteArray} {own : String} {Ts : List Cond} {ret : Option FieldType} {fr lo nL0 pc : Nat} {L : List (Nat × Value)} {st : List Value} {G : G_} {i : Nat} {x : Nat} {L' : List (Nat × Value)} (hc : Ok K cc own Ts ret fr lo nL0) (ks : List Nat) (hd : decode cc pc = .ok (.astore i, 2)) (hn : i < nL0) (hL : lv_pick ((i, Value.ref x) :: L.filter (fun q => !(q.1 == i) && !(q.1 + 1 == i && q.2.category == 2))) ks = L') (k : X K (pc + 2) L' st G) : X K pc L (.ref x :: st) G := by
  obtain ⟨p, l, e, R, s, m, args, below, meth, c, nL, V, cells, slots, Q⟩ := K
  obtain ⟨hx, hb, hml, hown, hts, ⟨hK, hD, hH⟩, hlk, hr, hR, hnL, w0, hw0⟩ := hc
  subst hnL
  exact fun H locs ls hP hS hl => lv_astore hx hb hd hl hn rfl (fun ls hl => k H locs ls hP hS (lv_sub hl ks hL))
theorem x_astore_nN {K : CT} {cc : ByteArray} {own : String} {Ts : List Cond} {ret : Option FieldType} {fr lo nL0 pc : Nat} {L : List (Nat × Value)} {st : List Value} {G : G_} {j : Fin 4} {i : Nat} {L' : List (Nat × Value)} (hc : Ok K cc own Ts ret fr lo nL0) (ks : List Nat) (hd : decode cc pc = .ok (.astore_n j, 1)) (hi : (j : Nat) = i) (hn : i < nL0) (hL : lv_pick ((i, Value.null) :: L.filter (fun q => !(q.1 == i) && !(q.1 + 1 == i && q.2.category == 2))) ks = L') (k : X K (pc + 1) L' st G) : X K pc L (.null :: st) G := by
  obtain ⟨p, l, e, R, s, m, args, below, meth, c, nL, V, cells, slots, Q⟩ := K
  obtain ⟨hx, hb, hml, hown, hts, ⟨hK, hD, hH⟩, hlk, hr, hR, hnL, w0, hw0⟩ := hc
  subst hnL
  exact fun H locs ls hP hS hl => lv_astore_nN hx hb hd hi hl hn rfl (fun ls hl => k H locs ls hP hS (lv_sub hl ks hL))
theorem x_astoreN {K : CT} {cc : ByteArray} {own : String} {Ts : List Cond} {ret : Option FieldType} {fr lo nL0 pc : Nat} {L : List (Nat × Value)} {st : List Value} {G : G_} {i : Nat} {L' : List (Nat × Value)} (hc : Ok K cc own Ts ret fr lo nL0) (ks : List Nat) (hd : decode cc pc = .ok (.astore i, 2)) (hn : i < nL0) (hL : lv_pick ((i, Value.null) :: L.filter (fun q => !(q.1 == i) && !(q.1 + 1 == i && q.2.category == 2))) ks = L') (k : X K (pc + 2) L' st G) : X K pc L (.null :: st) G := by
  obtain ⟨p, l, e, R, s, m, args, below, meth, c, nL, V, cells, slots, Q⟩ := K
  obtain ⟨hx, hb, hml, hown, hts, ⟨hK, hD, hH⟩, hlk, hr, hR, hnL, w0, hw0⟩ := hc
  subst hnL
  exact fun H locs ls hP hS hl => lv_astoreN hx hb hd hl hn rfl (fun ls hl => k H locs ls hP hS (lv_sub hl ks hL))
theorem x_astore_nO {K : CT} {cc : ByteArray} {own : String} {Ts : List Cond} {ret : Option FieldType} {fr lo nL0 pc : Nat} {L : List (Nat × Value)} {st : List Value} {G : G_} {j : Fin 4} {i : Nat} {o : Option Nat} {L' : List (Nat × Value)} (hc : Ok K cc own Ts ret fr lo nL0) (ks : List Nat) (hd : decode cc pc = .ok (.astore_n j, 1)) (hi : (j : Nat) = i) (hn : i < nL0) (hL : lv_pick ((i, rfo K o) :: L.filter (fun q => !(q.1 == i) && !(q.1 + 1 == i && q.2.category == 2))) ks = L') (k : X K (pc + 1) L' st G) : X K pc L (rfo K o :: st) G := by
  cases o with
  | none => exact x_astore_nN hc ks hd hi hn hL k
  | some y => exact x_astore_n hc ks hd hi hn hL k
theorem x_astoreO {K : CT} {cc : ByteArray} {own : String} {Ts : List Cond} {ret : Option FieldType} {fr lo nL0 pc : Nat} {L : List (Nat × Value)} {st : List Value} {G : G_} {i : Nat} {o : Option Nat} {L' : List (Nat × Value)} (hc : Ok K cc own Ts ret fr lo nL0) (ks : List Nat) (hd : decode cc pc = .ok (.astore i, 2)) (hn : i < nL0) (hL : lv_pick ((i, rfo K o) :: L.filter (fun q => !(q.1 == i) && !(q.1 + 1 == i && q.2.category == 2))) ks = L') (k : X K (pc + 2) L' st G) : X K pc L (rfo K o :: st) G := by
  cases o with
  | none => exact x_astoreN hc ks hd hn hL k
  | some y => exact x_astore hc ks hd hn hL k
theorem x_iinc {K : CT} {cc : ByteArray} {own : String} {Ts : List Cond} {ret : Option FieldType} {fr lo nL0 pc : Nat} {L : List (Nat × Value)} {st : List Value} {G : G_} {i : Nat} {n : Int} {x v : Int32} {L' : List (Nat × Value)} (hc : Ok K cc own Ts ret fr lo nL0) (q : Nat) (ks : List Nat) (hd : decode cc pc = .ok (.iinc i n, 3)) (hq : L[q]? = some (i, .int x)) (hv : x + Int32.ofInt n = v) (hn : i < nL0) (hL : lv_pick ((i, Value.int v) :: L.filter (fun q => !(q.1 == i) && !(q.1 + 1 == i && q.2.category == 2))) ks = L') (k : X K (pc + 3) L' st G) : X K pc L st G := by
  obtain ⟨p, l, e, R, s, m, args, below, meth, c, nL, V, cells, slots, Q⟩ := K
  obtain ⟨hx, hb, hml, hown, hts, ⟨hK, hD, hH⟩, hlk, hr, hR, hnL, w0, hw0⟩ := hc
  subst hnL
  exact fun H locs ls hP hS hl => lv_iinc hx hb hd hl hq hv hn rfl (fun ls hl => k H locs ls hP hS (lv_sub hl ks hL))
theorem x_if_eq {K : CT} {cc : ByteArray} {own : String} {Ts : List Cond} {ret : Option FieldType} {fr lo nL0 pc : Nat} {L : List (Nat × Value)} {st : List Value} {G : G_} {x : Int32} {off : Int} {tgt : Nat} (hc : Ok K cc own Ts ret fr lo nL0) (hd : decode cc pc = .ok (.ifCond .eq off, 3)) (ht : (pc : Int) + off = (tgt : Int)) (kt : x = 0 → X K tgt L st G) (kf : ¬ x = 0 → X K (pc + 3) L st G) : X K pc L (.int x :: st) G := by
  obtain ⟨p, l, e, R, s, m, args, below, meth, c, nL, V, cells, slots, Q⟩ := K
  obtain ⟨hx, hb, hml, hown, hts, ⟨hK, hD, hH⟩, hlk, hr, hR, hnL, w0, hw0⟩ := hc
  exact fun H locs ls hP hS hl => lv_if_eq hx hb hd ht (fun h => kt h H locs ls hP hS hl) (fun h => kf h H locs ls hP hS hl)
theorem x_icmp_eq {K : CT} {cc : ByteArray} {own : String} {Ts : List Cond} {ret : Option FieldType} {fr lo nL0 pc : Nat} {L : List (Nat × Value)} {st : List Value} {G : G_} {x y : Int32} {off : Int} {tgt : Nat} (hc : Ok K cc own Ts ret fr lo nL0) (hd : decode cc pc = .ok (.if_icmp .eq off, 3)) (ht : (pc : Int) + off = (tgt : Int)) (kt : x = y → X K tgt L st G) (kf : ¬ x = y → X K (pc + 3) L st G) : X K pc L (.int y :: .int x :: st) G := by
  obtain ⟨p, l, e, R, s, m, args, below, meth, c, nL, V, cells, slots, Q⟩ := K
  obtain ⟨hx, hb, hml, hown, hts, ⟨hK, hD, hH⟩, hlk, hr, hR, hnL, w0, hw0⟩ := hc
  exact fun H locs ls hP hS hl => lv_icmp_eq hx hb hd ht (fun h => kt h H locs ls hP hS hl) (fun h => kf h H locs ls hP hS hl)
theorem x_if_ne {K : CT} {cc : ByteArray} {own : String} {Ts : List Cond} {ret : Option FieldType} {fr lo nL0 pc : Nat} {L : List (Nat × Value)} {st : List Value} {G : G_} {x : Int32} {off : Int} {tgt : Nat} (hc : Ok K cc own Ts ret fr lo nL0) (hd : decode cc pc = .ok (.ifCond .ne off, 3)) (ht : (pc : Int) + off = (tgt : Int)) (kt : ¬ x = 0 → X K tgt L st G) (kf : x = 0 → X K (pc + 3) L st G) : X K pc L (.int x :: st) G := by
  obtain ⟨p, l, e, R, s, m, args, below, meth, c, nL, V, cells, slots, Q⟩ := K
  obtain ⟨hx, hb, hml, hown, hts, ⟨hK, hD, hH⟩, hlk, hr, hR, hnL, w0, hw0⟩ := hc
  exact fun H locs ls hP hS hl => lv_if_ne hx hb hd ht (fun h => kt h H locs ls hP hS hl) (fun h => kf h H locs ls hP hS hl)
theorem x_icmp_ne {K : CT} {cc : ByteArray} {own : String} {Ts : List Cond} {ret : Option FieldType} {fr lo nL0 pc : Nat} {L : List (Nat × Value)} {st : List Value} {G : G_} {x y : Int32} {off : Int} {tgt : Nat} (hc : Ok K cc own Ts ret fr lo nL0) (hd : decode cc pc = .ok (.if_icmp .ne off, 3)) (ht : (pc : Int) + off = (tgt : Int)) (kt : ¬ x = y → X K tgt L st G) (kf : x = y → X K (pc + 3) L st G) : X K pc L (.int y :: .int x :: st) G := by
  obtain ⟨p, l, e, R, s, m, args, below, meth, c, nL, V, cells, slots, Q⟩ := K
  obtain ⟨hx, hb, hml, hown, hts, ⟨hK, hD, hH⟩, hlk, hr, hR, hnL, w0, hw0⟩ := hc
  exact fun H locs ls hP hS hl => lv_icmp_ne hx hb hd ht (fun h => kt h H locs ls hP hS hl) (fun h => kf h H locs ls hP hS hl)
theorem x_if_lt {K : CT} {cc : ByteArray} {own : String} {Ts : List Cond} {ret : Option FieldType} {fr lo nL0 pc : Nat} {L : List (Nat × Value)} {st : List Value} {G : G_} {x : Int32} {off : Int} {tgt : Nat} (hc : Ok K cc own Ts ret fr lo nL0) (hd : decode cc pc = .ok (.ifCond .lt off, 3)) (ht : (pc : Int) + off = (tgt : Int)) (kt : x < 0 → X K tgt L st G) (kf : ¬ x < 0 → X K (pc + 3) L st G) : X K pc L (.int x :: st) G := by
  obtain ⟨p, l, e, R, s, m, args, below, meth, c, nL, V, cells, slots, Q⟩ := K
  obtain ⟨hx, hb, hml, hown, hts, ⟨hK, hD, hH⟩, hlk, hr, hR, hnL, w0, hw0⟩ := hc
  exact fun H locs ls hP hS hl => lv_if_lt hx hb hd ht (fun h => kt h H locs ls hP hS hl) (fun h => kf h H locs ls hP hS hl)
theorem x_icmp_lt {K : CT} {cc : ByteArray} {own : String} {Ts : List Cond} {ret : Option FieldType} {fr lo nL0 pc : Nat} {L : List (Nat × Value)} {st : List Value} {G : G_} {x y : Int32} {off : Int} {tgt : Nat} (hc : Ok K cc own Ts ret fr lo nL0) (hd : decode cc pc = .ok (.if_icmp .lt off, 3)) (ht : (pc : Int) + off = (tgt : Int)) (kt : x < y → X K tgt L st G) (kf : ¬ x < y → X K (pc + 3) L st G) : X K pc L (.int y :: .int x :: st) G := by
  obtain ⟨p, l, e, R, s, m, args, below, meth, c, nL, V, cells, slots, Q⟩ := K
  obtain ⟨hx, hb, hml, hown, hts, ⟨hK, hD, hH⟩, hlk, hr, hR, hnL, w0, hw0⟩ := hc
  exact fun H locs ls hP hS hl => lv_icmp_lt hx hb hd ht (fun h => kt h H locs ls hP hS hl) (fun h => kf h H locs ls hP hS hl)
theorem x_if_ge {K : CT} {cc : ByteArray} {own : String} {Ts : List Cond} {ret : Option FieldType} {fr lo nL0 pc : Nat} {L : List (Nat × Value)} {st : List Value} {G : G_} {x : Int32} {off : Int} {tgt : Nat} (hc : Ok K cc own Ts ret fr lo nL0) (hd : decode cc pc = .ok (.ifCond .ge off, 3)) (ht : (pc : Int) + off = (tgt : Int)) (kt : 0 ≤ x → X K tgt L st G) (kf : ¬ 0 ≤ x → X K (pc + 3) L st G) : X K pc L (.int x :: st) G := by
  obtain ⟨p, l, e, R, s, m, args, below, meth, c, nL, V, cells, slots, Q⟩ := K
  obtain ⟨hx, hb, hml, hown, hts, ⟨hK, hD, hH⟩, hlk, hr, hR, hnL, w0, hw0⟩ := hc
  exact fun H locs ls hP hS hl => lv_if_ge hx hb hd ht (fun h => kt h H locs ls hP hS hl) (fun h => kf h H locs ls hP hS hl)
theorem x_icmp_ge {K : CT} {cc : ByteArray} {own : String} {Ts : List Cond} {ret : Option FieldType} {fr lo nL0 pc : Nat} {L : List (Nat × Value)} {st : List Value} {G : G_} {x y : Int32} {off : Int} {tgt : Nat} (hc : Ok K cc own Ts ret fr lo nL0) (hd : decode cc pc = .ok (.if_icmp .ge off, 3)) (ht : (pc : Int) + off = (tgt : Int)) (kt : y ≤ x → X K tgt L st G) (kf : ¬ y ≤ x → X K (pc + 3) L st G) : X K pc L (.int y :: .int x :: st) G := by
  obtain ⟨p, l, e, R, s, m, args, below, meth, c, nL, V, cells, slots, Q⟩ := K
  obtain ⟨hx, hb, hml, hown, hts, ⟨hK, hD, hH⟩, hlk, hr, hR, hnL, w0, hw0⟩ := hc
  exact fun H locs ls hP hS hl => lv_icmp_ge hx hb hd ht (fun h => kt h H locs ls hP hS hl) (fun h => kf h H locs ls hP hS hl)
theorem x_if_gt {K : CT} {cc : ByteArray} {own : String} {Ts : List Cond} {ret : Option FieldType} {fr lo nL0 pc : Nat} {L : List (Nat × Value)} {st : List Value} {G : G_} {x : Int32} {off : Int} {tgt : Nat} (hc : Ok K cc own Ts ret fr lo nL0) (hd : decode cc pc = .ok (.ifCond .gt off, 3)) (ht : (pc : Int) + off = (tgt : Int)) (kt : 0 < x → X K tgt L st G) (kf : ¬ 0 < x → X K (pc + 3) L st G) : X K pc L (.int x :: st) G := by
  obtain ⟨p, l, e, R, s, m, args, below, meth, c, nL, V, cells, slots, Q⟩ := K
  obtain ⟨hx, hb, hml, hown, hts, ⟨hK, hD, hH⟩, hlk, hr, hR, hnL, w0, hw0⟩ := hc
  exact fun H locs ls hP hS hl => lv_if_gt hx hb hd ht (fun h => kt h H locs ls hP hS hl) (fun h => kf h H locs ls hP hS hl)
theorem x_icmp_gt {K : CT} {cc : ByteArray} {own : String} {Ts : List Cond} {ret : Option FieldType} {fr lo nL0 pc : Nat} {L : List (Nat × Value)} {st : List Value} {G : G_} {x y : Int32} {off : Int} {tgt : Nat} (hc : Ok K cc own Ts ret fr lo nL0) (hd : decode cc pc = .ok (.if_icmp .gt off, 3)) (ht : (pc : Int) + off = (tgt : Int)) (kt : y < x → X K tgt L st G) (kf : ¬ y < x → X K (pc + 3) L st G) : X K pc L (.int y :: .int x :: st) G := by
  obtain ⟨p, l, e, R, s, m, args, below, meth, c, nL, V, cells, slots, Q⟩ := K
  obtain ⟨hx, hb, hml, hown, hts, ⟨hK, hD, hH⟩, hlk, hr, hR, hnL, w0, hw0⟩ := hc
  exact fun H locs ls hP hS hl => lv_icmp_gt hx hb hd ht (fun h => kt h H locs ls hP hS hl) (fun h => kf h H locs ls hP hS hl)
theorem x_if_le {K : CT} {cc : ByteArray} {own : String} {Ts : List Cond} {ret : Option FieldType} {fr lo nL0 pc : Nat} {L : List (Nat × Value)} {st : List Value} {G : G_} {x : Int32} {off : Int} {tgt : Nat} (hc : Ok K cc own Ts ret fr lo nL0) (hd : decode cc pc = .ok (.ifCond .le off, 3)) (ht : (pc : Int) + off = (tgt : Int)) (kt : x ≤ 0 → X K tgt L st G) (kf : ¬ x ≤ 0 → X K (pc + 3) L st G) : X K pc L (.int x :: st) G := by
  obtain ⟨p, l, e, R, s, m, args, below, meth, c, nL, V, cells, slots, Q⟩ := K
  obtain ⟨hx, hb, hml, hown, hts, ⟨hK, hD, hH⟩, hlk, hr, hR, hnL, w0, hw0⟩ := hc
  exact fun H locs ls hP hS hl => lv_if_le hx hb hd ht (fun h => kt h H locs ls hP hS hl) (fun h => kf h H locs ls hP hS hl)
theorem x_icmp_le {K : CT} {cc : ByteArray} {own : String} {Ts : List Cond} {ret : Option FieldType} {fr lo nL0 pc : Nat} {L : List (Nat × Value)} {st : List Value} {G : G_} {x y : Int32} {off : Int} {tgt : Nat} (hc : Ok K cc own Ts ret fr lo nL0) (hd : decode cc pc = .ok (.if_icmp .le off, 3)) (ht : (pc : Int) + off = (tgt : Int)) (kt : x ≤ y → X K tgt L st G) (kf : ¬ x ≤ y → X K (pc + 3) L st G) : X K pc L (.int y :: .int x :: st) G := by
  obtain ⟨p, l, e, R, s, m, args, below, meth, c, nL, V, cells, slots, Q⟩ := K
  obtain ⟨hx, hb, hml, hown, hts, ⟨hK, hD, hH⟩, hlk, hr, hR, hnL, w0, hw0⟩ := hc
  exact fun H locs ls hP hS hl => lv_icmp_le hx hb hd ht (fun h => kt h H locs ls hP hS hl) (fun h => kf h H locs ls hP hS hl)
theorem x_goto {K : CT} {cc : ByteArray} {own : String} {Ts : List Cond} {ret : Option FieldType} {fr lo nL0 pc : Nat} {L : List (Nat × Value)} {st : List Value} {G : G_} {off : Int} {tgt : Nat} (hc : Ok K cc own Ts ret fr lo nL0) (hd : decode cc pc = .ok (.goto off, 3)) (ht : (pc : Int) + off = (tgt : Int)) (k : X K tgt L st G) : X K pc L st G := by
  obtain ⟨p, l, e, R, s, m, args, below, meth, c, nL, V, cells, slots, Q⟩ := K
  obtain ⟨hx, hb, hml, hown, hts, ⟨hK, hD, hH⟩, hlk, hr, hR, hnL, w0, hw0⟩ := hc
  exact fun H locs ls hP hS hl => lv_goto hx hb hd ht (k H locs ls hP hS hl)
theorem x_ifnullR {K : CT} {cc : ByteArray} {own : String} {Ts : List Cond} {ret : Option FieldType} {fr lo nL0 pc : Nat} {L : List (Nat × Value)} {st : List Value} {G : G_} {x : Nat} {off : Int} (hc : Ok K cc own Ts ret fr lo nL0) (hd : decode cc pc = .ok (.ifnull off, 3)) (k : X K (pc + 3) L st G) : X K pc L (.ref x :: st) G := by
  obtain ⟨p, l, e, R, s, m, args, below, meth, c, nL, V, cells, slots, Q⟩ := K
  obtain ⟨hx, hb, hml, hown, hts, ⟨hK, hD, hH⟩, hlk, hr, hR, hnL, w0, hw0⟩ := hc
  exact fun H locs ls hP hS hl => lv_ifnull hx hb hd (k H locs ls hP hS hl)
theorem x_ifnonnullR {K : CT} {cc : ByteArray} {own : String} {Ts : List Cond} {ret : Option FieldType} {fr lo nL0 pc : Nat} {L : List (Nat × Value)} {st : List Value} {G : G_} {x : Nat} {off : Int} {tgt : Nat} (hc : Ok K cc own Ts ret fr lo nL0) (hd : decode cc pc = .ok (.ifnonnull off, 3)) (ht : (pc : Int) + off = (tgt : Int)) (k : X K tgt L st G) : X K pc L (.ref x :: st) G := by
  obtain ⟨p, l, e, R, s, m, args, below, meth, c, nL, V, cells, slots, Q⟩ := K
  obtain ⟨hx, hb, hml, hown, hts, ⟨hK, hD, hH⟩, hlk, hr, hR, hnL, w0, hw0⟩ := hc
  exact fun H locs ls hP hS hl => lv_ifnonnull hx hb hd ht (k H locs ls hP hS hl)
theorem x_ifnullN {K : CT} {cc : ByteArray} {own : String} {Ts : List Cond} {ret : Option FieldType} {fr lo nL0 pc : Nat} {L : List (Nat × Value)} {st : List Value} {G : G_} {off : Int} {tgt : Nat} (hc : Ok K cc own Ts ret fr lo nL0) (hd : decode cc pc = .ok (.ifnull off, 3)) (ht : (pc : Int) + off = (tgt : Int)) (k : X K tgt L st G) : X K pc L (.null :: st) G := by
  obtain ⟨p, l, e, R, s, m, args, below, meth, c, nL, V, cells, slots, Q⟩ := K
  obtain ⟨hx, hb, hml, hown, hts, ⟨hK, hD, hH⟩, hlk, hr, hR, hnL, w0, hw0⟩ := hc
  exact fun H locs ls hP hS hl => lv_ifnullN hx hb hd ht (k H locs ls hP hS hl)
theorem x_ifnonnullN {K : CT} {cc : ByteArray} {own : String} {Ts : List Cond} {ret : Option FieldType} {fr lo nL0 pc : Nat} {L : List (Nat × Value)} {st : List Value} {G : G_} {off : Int} (hc : Ok K cc own Ts ret fr lo nL0) (hd : decode cc pc = .ok (.ifnonnull off, 3)) (k : X K (pc + 3) L st G) : X K pc L (.null :: st) G := by
  obtain ⟨p, l, e, R, s, m, args, below, meth, c, nL, V, cells, slots, Q⟩ := K
  obtain ⟨hx, hb, hml, hown, hts, ⟨hK, hD, hH⟩, hlk, hr, hR, hnL, w0, hw0⟩ := hc
  exact fun H locs ls hP hS hl => lv_ifnonnullN hx hb hd (k H locs ls hP hS hl)
theorem x_tsOut {K : CT} {cc : ByteArray} {own : String} {Ts : List Cond} {ret : Option FieldType} {fr lo nL0 pc : Nat} {L : List (Nat × Value)} {st : List Value} {G : G_} {dflt lo1 hi1 : Int} {offs : Array Int} {len : Nat} {x : Int32} {tgt : Nat} (hc : Ok K cc own Ts ret fr lo nL0) (hd : decode cc pc = .ok (.tableswitch dflt lo1 hi1 offs, len)) (h : x.toInt < lo1 ∨ hi1 < x.toInt) (ht : (pc : Int) + dflt = (tgt : Int)) (k : X K tgt L st G) : X K pc L (.int x :: st) G := by
  obtain ⟨p, l, e, R, s, m, args, below, meth, c, nL, V, cells, slots, Q⟩ := K
  obtain ⟨hx, hb, hml, hown, hts, ⟨hK, hD, hH⟩, hlk, hr, hR, hnL, w0, hw0⟩ := hc
  exact fun H locs ls hP hS hl => lv_tableOut hx hb hd h ht (k H locs ls hP hS hl)
theorem x_tsIn {K : CT} {cc : ByteArray} {own : String} {Ts : List Cond} {ret : Option FieldType} {fr lo nL0 pc : Nat} {L : List (Nat × Value)} {st : List Value} {G : G_} {dflt lo1 hi1 off : Int} {offs : Array Int} {len : Nat} {x : Int32} {tgt : Nat} (hc : Ok K cc own Ts ret fr lo nL0) (hd : decode cc pc = .ok (.tableswitch dflt lo1 hi1 offs, len)) (v : Int32) (hv : x = v) (h1 : ¬ v.toInt < lo1) (h2 : ¬ hi1 < v.toInt) (ho : offs[(v.toInt - lo1).toNat]? = some off) (ht : (pc : Int) + off = (tgt : Int)) (k : X K tgt L st G) : X K pc L (.int x :: st) G := by
  subst hv
  obtain ⟨p, l, e, R, s, m, args, below, meth, c, nL, V, cells, slots, Q⟩ := K
  obtain ⟨hx, hb, hml, hown, hts, ⟨hK, hD, hH⟩, hlk, hr, hR, hnL, w0, hw0⟩ := hc
  exact fun H locs ls hP hS hl => lv_tableIn hx hb hd h1 h2 ho ht (k H locs ls hP hS hl)
theorem x_lsw {K : CT} {cc : ByteArray} {own : String} {Ts : List Cond} {ret : Option FieldType} {fr lo nL0 pc : Nat} {L : List (Nat × Value)} {st : List Value} {G : G_} {dflt off : Int} {ps : Array (Int × Int)} {len : Nat} {x : Int32} {tgt : Nat} (hc : Ok K cc own Ts ret fr lo nL0) (hd : decode cc pc = .ok (.lookupswitch dflt ps, len)) (hp : (ps.toList.zip (ps.toList.drop 1)).all (fun (a, next) => a.1 < next.1) = true) (ho : Op.lookupswitch.offset ps.toList dflt x.toInt = off) (ht : (pc : Int) + off = (tgt : Int)) (k : X K tgt L st G) : X K pc L (.int x :: st) G := by
  obtain ⟨p, l, e, R, s, m, args, below, meth, c, nL, V, cells, slots, Q⟩ := K
  obtain ⟨hx, hb, hml, hown, hts, ⟨hK, hD, hH⟩, hlk, hr, hR, hnL, w0, hw0⟩ := hc
  exact fun H locs ls hP hS hl => lv_lookup hx hb hd hp ho ht (k H locs ls hP hS hl)
theorem x_tsDef {K : CT} {cc : ByteArray} {own : String} {Ts : List Cond} {ret : Option FieldType} {fr lo nL0 pc : Nat} {L : List (Nat × Value)} {st : List Value} {G : G_} {dflt lo1 hi1 : Int} {offs : Array Int} {len : Nat} {x : Int32} {tgt : Nat} (hc : Ok K cc own Ts ret fr lo nL0) (hd : decode cc pc = .ok (.tableswitch dflt lo1 hi1 offs, len)) (vs : List Int32) (n : Nat) (hn : hi1 + 1 = lo1 + (n : Int)) (hall : ∀ j, j < n → (∃ v ∈ vs, v.toInt = lo1 + (j : Int)) ∨ offs[j]? = some dflt) (hv : ∀ v ∈ vs, ¬ x = v) (ht : (pc : Int) + dflt = (tgt : Int)) (k : X K tgt L st G) : X K pc L (.int x :: st) G := by
  obtain ⟨p, l, e, R, s, m, args, below, meth, c, nL, V, cells, slots, Q⟩ := K
  obtain ⟨hx, hb, hml, hown, hts, ⟨hK, hD, hH⟩, hlk, hr, hR, hnL, w0, hw0⟩ := hc
  intro H locs ls hP hS hl
  by_cases h1 : x.toInt < lo1
  · exact lv_tableOut hx hb hd (Or.inl h1) ht (k H locs ls hP hS hl)
  by_cases h2 : hi1 < x.toInt
  · exact lv_tableOut hx hb hd (Or.inr h2) ht (k H locs ls hP hS hl)
  refine lv_tableIn hx hb hd h1 h2 ?_ ht (k H locs ls hP hS hl)
  rcases hall (x.toInt - lo1).toNat (by omega) with ⟨v, h3, h4⟩ | h3
  · exact absurd (Int32.toInt_inj.mp (by rw [h4]; omega)) (hv v h3)
  · exact h3
theorem TB_use {args : Array Value} {s : State} {Ts : List Cond} {w0 w : Cond} (hts : ∀ w ∈ Ts, w.before args s = true) (hw0 : Ts = w0 :: TB) (hw : w ∈ TB) : w.before args s = true := hts w (by rw [hw0]; exact List.mem_cons_of_mem _ hw)
theorem x_ldcw {K : CT} {cc : ByteArray} {own : String} {Ts : List Cond} {ret : Option FieldType} {fr lo nL0 pc : Nat} {L : List (Nat × Value)} {st : List Value} {G : G_} {index : Nat} {v : Int32} (hc : Ok K cc own Ts ret fr lo nL0) (hd : decode cc pc = .ok (.ldc_w index, 3)) (hw : Cond.constant own index v ∈ TB) (k : X K (pc + 3) L (.int v :: st) G) : X K pc L st G := by
  obtain ⟨p, l, e, R, s, m, args, below, meth, c, nL, V, cells, slots, Q⟩ := K
  obtain ⟨hx, hb, hml, hown, hts, ⟨hK, hD, hH⟩, hlk, hr, hR, hnL, w0, hw0⟩ := hc
  exact fun H locs ls hP hS hl => lv_ldcw hx hb hown (TB_use hts hw0 hw) hd (k H locs ls hP hS hl)
theorem x_ldc2 {K : CT} {cc : ByteArray} {own : String} {Ts : List Cond} {ret : Option FieldType} {fr lo nL0 pc : Nat} {L : List (Nat × Value)} {st : List Value} {G : G_} {index : Nat} {v : Int64} (hc : Ok K cc own Ts ret fr lo nL0) (hd : decode cc pc = .ok (.ldc2_w index, 3)) (hw : Cond.constantLong own index v ∈ TB) (k : X K (pc + 3) L (.long v :: st) G) : X K pc L st G := by
  obtain ⟨p, l, e, R, s, m, args, below, meth, c, nL, V, cells, slots, Q⟩ := K
  obtain ⟨hx, hb, hml, hown, hts, ⟨hK, hD, hH⟩, hlk, hr, hR, hnL, w0, hw0⟩ := hc
  exact fun H locs ls hP hS hl => lv_ldc2 hx hb hown (TB_use hts hw0 hw) hd (k H locs ls hP hS hl)
theorem x_getI {K : CT} {cc : ByteArray} {own : String} {Ts : List Cond} {ret : Option FieldType} {fr lo nL0 pc : Nat} {L : List (Nat × Value)} {st : List Value} {G : G_} {C : String} {T : u_T} {N ci index : Nat} (hc : Ok K cc own Ts ret fr lo nL0) (hin : ∀ w ∈ u_ws C T N, w ∈ TB) (hcl : vwCl[ci]? = some (C, T, N)) (hci : ci < 9) {p0 : Nat} (hp : kd p0 = ci) (j : Nat) (hj : j < N) (hw : Cond.fieldLink own index C (T j).2.1 (T j).2.2.1 ∈ TB) (hC : (T j).1 = C) {d : Nat} (hf : (fl ci)[j]? = some (0, d)) (hd : decode cc pc = .ok (.getfield index, 3)) (k : X K (pc + 3) L (.int (G.1 p0 j) :: st) G) : X K pc L (.ref (kad K p0) :: st) G := by
  obtain ⟨p, l, e, R, s, m, args, below, meth, c, nL, V, cells, slots, Q⟩ := K
  obtain ⟨hx, hb, hml, hown, hts, ⟨hK, hD, hH⟩, hlk, hr, hR, hnL, w0, hw0⟩ := hc
  intro H locs ls hP hS hl
  have hv := fvl_get_i (ad := V.2.2.1) (G := G) (p := p0) (fl ci) 0 j d hf
  rw [Nat.zero_add] at hv
  exact va_get (C := C) (T := T) (N := N) (ci := ci) hx hb hts (fun w hw => by rw [hw0]; exact List.mem_cons_of_mem _ (hin w hw)) hown hK.1 hP p0 (wl_obj V G hp hci) hcl j hj (TB_use hts hw0 hw) (fun x h => by rw [hC] at h; exact h) hv hd (k H locs ls hP hS hl)
theorem x_getL {K : CT} {cc : ByteArray} {own : String} {Ts : List Cond} {ret : Option FieldType} {fr lo nL0 pc : Nat} {L : List (Nat × Value)} {st : List Value} {G : G_} {C : String} {T : u_T} {N ci index : Nat} (hc : Ok K cc own Ts ret fr lo nL0) (hin : ∀ w ∈ u_ws C T N, w ∈ TB) (hcl : vwCl[ci]? = some (C, T, N)) (hci : ci < 9) {p0 : Nat} (hp : kd p0 = ci) (j : Nat) (hj : j < N) (hw : Cond.fieldLink own index C (T j).2.1 (T j).2.2.1 ∈ TB) (hC : (T j).1 = C) {d : Nat} (hf : (fl ci)[j]? = some (1, d)) (hd : decode cc pc = .ok (.getfield index, 3)) (k : X K (pc + 3) L (.long (G.2 p0 j) :: st) G) : X K pc L (.ref (kad K p0) :: st) G := by
  obtain ⟨p, l, e, R, s, m, args, below, meth, c, nL, V, cells, slots, Q⟩ := K
  obtain ⟨hx, hb, hml, hown, hts, ⟨hK, hD, hH⟩, hlk, hr, hR, hnL, w0, hw0⟩ := hc
  intro H locs ls hP hS hl
  have hv := fvl_get_l (ad := V.2.2.1) (G := G) (p := p0) (fl ci) 0 j d hf
  rw [Nat.zero_add] at hv
  exact va_get (C := C) (T := T) (N := N) (ci := ci) hx hb hts (fun w hw => by rw [hw0]; exact List.mem_cons_of_mem _ (hin w hw)) hown hK.1 hP p0 (wl_obj V G hp hci) hcl j hj (TB_use hts hw0 hw) (fun x h => by rw [hC] at h; exact h) hv hd (k H locs ls hP hS hl)
theorem x_getR {K : CT} {cc : ByteArray} {own : String} {Ts : List Cond} {ret : Option FieldType} {fr lo nL0 pc : Nat} {L : List (Nat × Value)} {st : List Value} {G : G_} {C : String} {T : u_T} {N ci index : Nat} (hc : Ok K cc own Ts ret fr lo nL0) (hin : ∀ w ∈ u_ws C T N, w ∈ TB) (hcl : vwCl[ci]? = some (C, T, N)) (hci : ci < 9) {p0 : Nat} (hp : kd p0 = ci) (j : Nat) (hj : j < N) (hw : Cond.fieldLink own index C (T j).2.1 (T j).2.2.1 ∈ TB) (hC : (T j).1 = C) {d : Nat} (hf : (fl ci)[j]? = some (2, d)) (hd : decode cc pc = .ok (.getfield index, 3)) (k : X K (pc + 3) L (.ref (kad K (p0 + d)) :: st) G) : X K pc L (.ref (kad K p0) :: st) G := by
  obtain ⟨p, l, e, R, s, m, args, below, meth, c, nL, V, cells, slots, Q⟩ := K
  obtain ⟨hx, hb, hml, hown, hts, ⟨hK, hD, hH⟩, hlk, hr, hR, hnL, w0, hw0⟩ := hc
  intro H locs ls hP hS hl
  have hv := fvl_get_r (ad := V.2.2.1) (G := G) (p := p0) (fl ci) 0 j d hf
  skip
  exact va_get (C := C) (T := T) (N := N) (ci := ci) hx hb hts (fun w hw => by rw [hw0]; exact List.mem_cons_of_mem _ (hin w hw)) hown hK.1 hP p0 (wl_obj V G hp hci) hcl j hj (TB_use hts hw0 hw) (fun x h => by rw [hC] at h; exact h) hv hd (k H locs ls hP hS hl)
theorem x_putI {K : CT} {cc : ByteArray} {own : String} {Ts : List Cond} {ret : Option FieldType} {fr lo nL0 pc : Nat} {L : List (Nat × Value)} {st : List Value} {G : G_} {C : String} {T : u_T} {N ci index : Nat} {v : Int32} (hc : Ok K cc own Ts ret fr lo nL0) (ty0 : Nat → FieldType) (hty0 : ∀ k, k < N → parseFieldDescriptor (T k).2.2.1 = some (ty0 k)) (hnm : ∀ a, a < N → ∀ b, b < N → a ≠ b → (T a).2.1 ≠ (T b).2.1) (hin : ∀ w ∈ u_ws C T N, w ∈ TB) (hcl : vwCl[ci]? = some (C, T, N)) (hci : ci < 9) {p0 : Nat} (hp : kd p0 = ci) (j : Nat) (hj : j < N) (hw : Cond.fieldLink own index C (T j).2.1 (T j).2.2.1 ∈ TB) (hC : (T j).1 = C) {d : Nat} (hf : (fl ci)[j]? = some (0, d)) (hfin : (T j).2.2.2 = false) (hty : parseFieldDescriptor (T j).2.2.1 = some .int) (hd : decode cc pc = .ok (.putfield index, 3)) (k : X K (pc + 3) L st (sI G p0 j v)) : X K pc L (.int v :: .ref (kad K p0) :: st) G := by
  obtain ⟨p, l, e, R, s, m, args, below, meth, c, nL, V, cells, slots, Q⟩ := K
  obtain ⟨hx, hb, hml, hown, hts, ⟨hK, hD, hH⟩, hlk, hr, hR, hnL, w0, hw0⟩ := hc
  intro H locs ls hP hS hl
  have hlt := wv_lt (V := V) (kd_lt hp (by omega))
  refine va_put (C := C) (T := T) (N := N) (ci := ci) hx hb hts (fun w hw => by rw [hw0]; exact List.mem_cons_of_mem _ (hin w hw)) ty0 hty0 hnm hown hK.1 hP (hD G) hS p0 (wl_obj V G hp hci) hcl j hj (TB_use hts hw0 hw) (fun x h => by rw [hC] at h; exact h) hfin hty rfl rfl (by rw [fvl_len]; exact (List.getElem?_eq_some_iff.mp hf).1) hd (fun H1 locs1 hP1 hD1 hS1 => ?_)
  have e1 : (wl V G).set p0 (V.2.2.1 p0, .inr (ci, (fvl V.2.2.1 G p0 (fl ci) 0).set j (.int v))) = wl V (sI G p0 j v) := wl_set V hlt (by rw [en_obj hp hci, fvl_set_i (q := 0) _ hf]) (fun q hq => en_sI_ne hq)
  have h2 : va_P V.1 vwCl ((wl V G).set p0 (V.2.2.1 p0, .inr (ci, (fvl V.2.2.1 G p0 (fl ci) 0).set j (.int v)))) H1 := hP1
  rw [e1] at h2
  exact k H1 locs1 ls h2 hS1 hl
theorem x_putZ {K : CT} {cc : ByteArray} {own : String} {Ts : List Cond} {ret : Option FieldType} {fr lo nL0 pc : Nat} {L : List (Nat × Value)} {st : List Value} {G : G_} {C : String} {T : u_T} {N ci index : Nat} {v : Int32} (hc : Ok K cc own Ts ret fr lo nL0) (ty0 : Nat → FieldType) (hty0 : ∀ k, k < N → parseFieldDescriptor (T k).2.2.1 = some (ty0 k)) (hnm : ∀ a, a < N → ∀ b, b < N → a ≠ b → (T a).2.1 ≠ (T b).2.1) (hin : ∀ w ∈ u_ws C T N, w ∈ TB) (hcl : vwCl[ci]? = some (C, T, N)) (hci : ci < 9) {p0 : Nat} (hp : kd p0 = ci) (j : Nat) (hj : j < N) (hw : Cond.fieldLink own index C (T j).2.1 (T j).2.2.1 ∈ TB) (hC : (T j).1 = C) {d : Nat} (hf : (fl ci)[j]? = some (0, d)) (hfin : (T j).2.2.2 = false) (hz : isZ v = true) (hty : parseFieldDescriptor (T j).2.2.1 = some .boolean) (hd : decode cc pc = .ok (.putfield index, 3)) (k : X K (pc + 3) L st (sI G p0 j v)) : X K pc L (.int v :: .ref (kad K p0) :: st) G := by
  obtain ⟨p, l, e, R, s, m, args, below, meth, c, nL, V, cells, slots, Q⟩ := K
  obtain ⟨hx, hb, hml, hown, hts, ⟨hK, hD, hH⟩, hlk, hr, hR, hnL, w0, hw0⟩ := hc
  intro H locs ls hP hS hl
  have hlt := wv_lt (V := V) (kd_lt hp (by omega))
  refine va_put (C := C) (T := T) (N := N) (ci := ci) hx hb hts (fun w hw => by rw [hw0]; exact List.mem_cons_of_mem _ (hin w hw)) ty0 hty0 hnm hown hK.1 hP (hD G) hS p0 (wl_obj V G hp hci) hcl j hj (TB_use hts hw0 hw) (fun x h => by rw [hC] at h; exact h) hfin hty (isZ_narrow hz).1 (isZ_narrow hz).2.1 (by rw [fvl_len]; exact (List.getElem?_eq_some_iff.mp hf).1) hd (fun H1 locs1 hP1 hD1 hS1 => ?_)
  have e1 : (wl V G).set p0 (V.2.2.1 p0, .inr (ci, (fvl V.2.2.1 G p0 (fl ci) 0).set j (.int v))) = wl V (sI G p0 j v) := wl_set V hlt (by rw [en_obj hp hci, fvl_set_i (q := 0) _ hf]) (fun q hq => en_sI_ne hq)
  have h2 : va_P V.1 vwCl ((wl V G).set p0 (V.2.2.1 p0, .inr (ci, (fvl V.2.2.1 G p0 (fl ci) 0).set j (.int v)))) H1 := hP1
  rw [e1] at h2
  exact k H1 locs1 ls h2 hS1 hl
theorem x_putL {K : CT} {cc : ByteArray} {own : String} {Ts : List Cond} {ret : Option FieldType} {fr lo nL0 pc : Nat} {L : List (Nat × Value)} {st : List Value} {G : G_} {C : String} {T : u_T} {N ci index : Nat} {v : Int64} (hc : Ok K cc own Ts ret fr lo nL0) (ty0 : Nat → FieldType) (hty0 : ∀ k, k < N → parseFieldDescriptor (T k).2.2.1 = some (ty0 k)) (hnm : ∀ a, a < N → ∀ b, b < N → a ≠ b → (T a).2.1 ≠ (T b).2.1) (hin : ∀ w ∈ u_ws C T N, w ∈ TB) (hcl : vwCl[ci]? = some (C, T, N)) (hci : ci < 9) {p0 : Nat} (hp : kd p0 = ci) (j : Nat) (hj : j < N) (hw : Cond.fieldLink own index C (T j).2.1 (T j).2.2.1 ∈ TB) (hC : (T j).1 = C) {d : Nat} (hf : (fl ci)[j]? = some (1, d)) (hfin : (T j).2.2.2 = false) (hty : parseFieldDescriptor (T j).2.2.1 = some .long) (hd : decode cc pc = .ok (.putfield index, 3)) (k : X K (pc + 3) L st (sJ G p0 j v)) : X K pc L (.long v :: .ref (kad K p0) :: st) G := by
  obtain ⟨p, l, e, R, s, m, args, below, meth, c, nL, V, cells, slots, Q⟩ := K
  obtain ⟨hx, hb, hml, hown, hts, ⟨hK, hD, hH⟩, hlk, hr, hR, hnL, w0, hw0⟩ := hc
  intro H locs ls hP hS hl
  have hlt := wv_lt (V := V) (kd_lt hp (by omega))
  refine va_put (C := C) (T := T) (N := N) (ci := ci) hx hb hts (fun w hw => by rw [hw0]; exact List.mem_cons_of_mem _ (hin w hw)) ty0 hty0 hnm hown hK.1 hP (hD G) hS p0 (wl_obj V G hp hci) hcl j hj (TB_use hts hw0 hw) (fun x h => by rw [hC] at h; exact h) hfin hty rfl rfl (by rw [fvl_len]; exact (List.getElem?_eq_some_iff.mp hf).1) hd (fun H1 locs1 hP1 hD1 hS1 => ?_)
  have e1 : (wl V G).set p0 (V.2.2.1 p0, .inr (ci, (fvl V.2.2.1 G p0 (fl ci) 0).set j (.long v))) = wl V (sJ G p0 j v) := wl_set V hlt (by rw [en_obj hp hci, fvl_set_l (q := 0) _ hf]) (fun q hq => en_sJ_ne hq)
  have h2 : va_P V.1 vwCl ((wl V G).set p0 (V.2.2.1 p0, .inr (ci, (fvl V.2.2.1 G p0 (fl ci) 0).set j (.long v)))) H1 := hP1
  rw [e1] at h2
  exact k H1 locs1 ls h2 hS1 hl
theorem x_iaload {K : CT} {cc : ByteArray} {own : String} {Ts : List Cond} {ret : Option FieldType} {fr lo nL0 pc : Nat} {L : List (Nat × Value)} {st : List Value} {G : G_} {i : Int32} {n : Nat} (hc : Ok K cc own Ts ret fr lo nL0) {p0 : Nat} (hp : kd p0 = 10) (hn : ln p0 = n) (hi : inb i n = true) (hd : decode cc pc = .ok (.iaload, 1)) (k : X K (pc + 1) L (.int (G.1 p0 (ix i)) :: st) G) : X K pc L (.int i :: .ref (kad K p0) :: st) G := by
  obtain ⟨p, l, e, R, s, m, args, below, meth, c, nL, V, cells, slots, Q⟩ := K
  obtain ⟨hx, hb, hml, hown, hts, ⟨hK, hD, hH⟩, hlk, hr, hR, hnL, w0, hw0⟩ := hc
  subst hn
  intro H locs ls hP hS hl
  exact va_iald (cA := V.2.1 10) (n := ln p0) (f := G.1 p0) hx hb hK.1 hP p0 1 (wl_arr V G hp (by omega) (by omega)) rfl (inb_in hi) hd (k H locs ls hP hS hl)
theorem x_baload {K : CT} {cc : ByteArray} {own : String} {Ts : List Cond} {ret : Option FieldType} {fr lo nL0 pc : Nat} {L : List (Nat × Value)} {st : List Value} {G : G_} {i : Int32} {n : Nat} (hc : Ok K cc own Ts ret fr lo nL0) {p0 : Nat} (hp : kd p0 = 9) (hn : ln p0 = n) (hi : inb i n = true) (hd : decode cc pc = .ok (.baload, 1)) (k : X K (pc + 1) L (.int (G.1 p0 (ix i)) :: st) G) : X K pc L (.int i :: .ref (kad K p0) :: st) G := by
  obtain ⟨p, l, e, R, s, m, args, below, meth, c, nL, V, cells, slots, Q⟩ := K
  obtain ⟨hx, hb, hml, hown, hts, ⟨hK, hD, hH⟩, hlk, hr, hR, hnL, w0, hw0⟩ := hc
  subst hn
  intro H locs ls hP hS hl
  exact va_bald (cA := V.2.1 9) (n := ln p0) (f := G.1 p0) hx hb hK.1 hP p0 0 (wl_arr V G hp (by omega) (by omega)) rfl (inb_in hi) hd (k H locs ls hP hS hl)
theorem x_iastore {K : CT} {cc : ByteArray} {own : String} {Ts : List Cond} {ret : Option FieldType} {fr lo nL0 pc : Nat} {L : List (Nat × Value)} {st : List Value} {G : G_} {i v : Int32} {n : Nat} (hc : Ok K cc own Ts ret fr lo nL0) {p0 : Nat} (hp : kd p0 = 10) (hn : ln p0 = n) (hi : inb i n = true) (hd : decode cc pc = .ok (.iastore, 1)) (k : X K (pc + 1) L st (sI G p0 (ix i) (v))) : X K pc L (.int v :: .int i :: .ref (kad K p0) :: st) G := by
  obtain ⟨p, l, e, R, s, m, args, below, meth, c, nL, V, cells, slots, Q⟩ := K
  obtain ⟨hx, hb, hml, hown, hts, ⟨hK, hD, hH⟩, hlk, hr, hR, hnL, w0, hw0⟩ := hc
  subst hn
  intro H locs ls hP hS hl
  have hlt := wv_lt (V := V) (kd_lt hp (by omega))
  refine va_iast (cA := V.2.1 10) (n := ln p0) (f := G.1 p0) hx hb hK.1 hP (hD G) hS p0 1 (wl_arr V G hp (by omega) (by omega)) rfl (inb_in hi) hd (fun H1 locs1 hP1 hD1 hS1 => ?_)
  have e0 : upd (G.1 p0) i.toNatClampNeg (v) = (sI G p0 (ix i) (v)).1 p0 := by
    funext a
    simp only [sI, u2, upd, ix, if_true]
    skip
  have e1 : (wl V G).set p0 (V.2.2.1 p0, .inl (V.2.1 10, ln p0, .inl (upd (G.1 p0) i.toNatClampNeg (v)))) = wl V (sI G p0 (ix i) (v)) := wl_set V hlt (by rw [en_arr hp (by omega) (by omega), e0]) (fun q hq => en_sI_ne hq)
  have h2 : va_P V.1 vwCl ((wl V G).set p0 (V.2.2.1 p0, .inl (V.2.1 10, ln p0, .inl (upd (G.1 p0) i.toNatClampNeg (v))))) H1 := hP1
  rw [e1] at h2
  exact k H1 locs1 ls h2 hS1 hl
theorem x_bastore {K : CT} {cc : ByteArray} {own : String} {Ts : List Cond} {ret : Option FieldType} {fr lo nL0 pc : Nat} {L : List (Nat × Value)} {st : List Value} {G : G_} {i v : Int32} {n : Nat} (hc : Ok K cc own Ts ret fr lo nL0) {p0 : Nat} (hp : kd p0 = 9) (hn : ln p0 = n) (hi : inb i n = true) (hd : decode cc pc = .ok (.bastore, 1)) (k : X K (pc + 1) L st (sI G p0 (ix i) (v.toInt8.toInt32))) : X K pc L (.int v :: .int i :: .ref (kad K p0) :: st) G := by
  obtain ⟨p, l, e, R, s, m, args, below, meth, c, nL, V, cells, slots, Q⟩ := K
  obtain ⟨hx, hb, hml, hown, hts, ⟨hK, hD, hH⟩, hlk, hr, hR, hnL, w0, hw0⟩ := hc
  subst hn
  intro H locs ls hP hS hl
  have hlt := wv_lt (V := V) (kd_lt hp (by omega))
  refine va_bast (cA := V.2.1 9) (n := ln p0) (f := G.1 p0) hx hb hK.1 hP (hD G) hS p0 0 (wl_arr V G hp (by omega) (by omega)) rfl (inb_in hi) hd (fun H1 locs1 hP1 hD1 hS1 => ?_)
  have e0 : upd (G.1 p0) i.toNatClampNeg (vp_nar .byte v) = (sI G p0 (ix i) (v.toInt8.toInt32)).1 p0 := by
    funext a
    simp only [sI, u2, upd, ix, if_true]
    rfl
  have e1 : (wl V G).set p0 (V.2.2.1 p0, .inl (V.2.1 9, ln p0, .inl (upd (G.1 p0) i.toNatClampNeg (vp_nar .byte v)))) = wl V (sI G p0 (ix i) (v.toInt8.toInt32)) := wl_set V hlt (by rw [en_arr hp (by omega) (by omega), e0]) (fun q hq => en_sI_ne hq)
  have h2 : va_P V.1 vwCl ((wl V G).set p0 (V.2.2.1 p0, .inl (V.2.1 9, ln p0, .inl (upd (G.1 p0) i.toNatClampNeg (vp_nar .byte v))))) H1 := hP1
  rw [e1] at h2
  exact k H1 locs1 ls h2 hS1 hl
theorem x_aaload {K : CT} {cc : ByteArray} {own : String} {Ts : List Cond} {ret : Option FieldType} {fr lo nL0 pc : Nat} {L : List (Nat × Value)} {st : List Value} {G : G_} {i : Int32} {n ci : Nat} {C : String} (hc : Ok K cc own Ts ret fr lo nL0) {p0 : Nat} (hp : kd p0 = ci) (hci : 12 ≤ ci) (hci2 : ci < 17) (ht : ∀ cA : Nat → ClassId, (vtys cA)[ci - 9]? = some (cA ci, .object C)) (hrb : rbp p0 = rb ci) (hn : ln p0 = n) (hi : inb i n = true) (hd : decode cc pc = .ok (.aaload, 1)) (k : X K (pc + 1) L (.ref (kad K (rb ci + rs ci * ix i)) :: st) G) : X K pc L (.int i :: .ref (kad K p0) :: st) G := by
  obtain ⟨p, l, e, R, s, m, args, below, meth, c, nL, V, cells, slots, Q⟩ := K
  obtain ⟨hx, hb, hml, hown, hts, ⟨hK, hD, hH⟩, hlk, hr, hR, hnL, w0, hw0⟩ := hc
  subst hn
  rw [← hrb] at k
  intro H locs ls hP hS hl
  exact va_aldq (cA := V.2.1 ci) (n := ln p0) (f := fun i => some (V.2.2.1 (rbp p0 + rs ci * i))) hx hb hK.1 hP p0 (ci - 9) (wl_ra V G hp hci hci2) (ht V.2.1) (inb_in hi) hd (k H locs ls hP hS hl)
theorem x_alenI {K : CT} {cc : ByteArray} {own : String} {Ts : List Cond} {ret : Option FieldType} {fr lo nL0 pc : Nat} {L : List (Nat × Value)} {st : List Value} {G : G_} {n ci : Nat} {v : Int32} (hc : Ok K cc own Ts ret fr lo nL0) {p0 : Nat} (hp : kd p0 = ci) (h1 : 9 ≤ ci) (h2 : ci < 12) (hn : ln p0 = n) (hv : Int32.ofNat n = v) (hd : decode cc pc = .ok (.arraylength, 1)) (k : X K (pc + 1) L (.int v :: st) G) : X K pc L (.ref (kad K p0) :: st) G := by
  obtain ⟨p, l, e, R, s, m, args, below, meth, c, nL, V, cells, slots, Q⟩ := K
  obtain ⟨hx, hb, hml, hown, hts, ⟨hK, hD, hH⟩, hlk, hr, hR, hnL, w0, hw0⟩ := hc
  subst hn
  intro H locs ls hP hS hl
  have ht : ∃ ty, (vtys V.2.1)[ci - 9]? = some (V.2.1 ci, ty) := by
    rcases (show ci = 9 ∨ ci = 10 ∨ ci = 11 by omega) with rfl | rfl | rfl <;> exact ⟨_, rfl⟩
  obtain ⟨ty, ht⟩ := ht
  exact va_alen (cA := V.2.1 ci) (x := (ln p0, .inl (G.1 p0))) hx hb hK.1 hP p0 (ci - 9) (wl_arr V G hp h1 h2) ht hv hd (k H locs ls hP hS hl)
theorem x_alenQ {K : CT} {cc : ByteArray} {own : String} {Ts : List Cond} {ret : Option FieldType} {fr lo nL0 pc : Nat} {L : List (Nat × Value)} {st : List Value} {G : G_} {n ci : Nat} {v : Int32} (hc : Ok K cc own Ts ret fr lo nL0) {p0 : Nat} (hp : kd p0 = ci) (h1 : 12 ≤ ci) (h2 : ci < 17) (hn : ln p0 = n) (hv : Int32.ofNat n = v) (hd : decode cc pc = .ok (.arraylength, 1)) (k : X K (pc + 1) L (.int v :: st) G) : X K pc L (.ref (kad K p0) :: st) G := by
  obtain ⟨p, l, e, R, s, m, args, below, meth, c, nL, V, cells, slots, Q⟩ := K
  obtain ⟨hx, hb, hml, hown, hts, ⟨hK, hD, hH⟩, hlk, hr, hR, hnL, w0, hw0⟩ := hc
  subst hn
  intro H locs ls hP hS hl
  have ht : ∃ ty, (vtys V.2.1)[ci - 9]? = some (V.2.1 ci, ty) := by
    rcases (show ci = 12 ∨ ci = 13 ∨ ci = 14 ∨ ci = 15 ∨ ci = 16 by omega) with rfl | rfl | rfl | rfl | rfl <;> exact ⟨_, rfl⟩
  obtain ⟨ty, ht⟩ := ht
  exact va_alen (cA := V.2.1 ci) (x := (ln p0, .inr (.inr (.inr (.inr (fun i => some (V.2.2.1 (rbp p0 + rs ci * i)))))))) hx hb hK.1 hP p0 (ci - 9) (wl_ra V G hp h1 h2) ht hv hd (k H locs ls hP hS hl)
def cpOk (sp dp n : Int32) (n0 n1 : Nat) : Bool := decide (¬ sp < 0) && (decide (¬ dp < 0) && (decide (¬ n < 0) && (decide (ix sp + ix n ≤ n0) && decide (ix dp + ix n ≤ n1))))
def sC (G : G_) (p0 p1 : Nat) (sp dp n : Int32) : G_ := (fun q i => if q = p1 then va_cpy (G.1 p0) (G.1 p1) (ix sp) (ix dp) (ix n) i else G.1 q i, G.2)
theorem en_sC_ne {V : VT} {G : G_} {p0 p1 q : Nat} {sp dp n : Int32} (h : q ≠ p1) : en V (sC G p0 p1 sp dp n) q = en V G q := en_congr (by funext i; simp [sC, h]) rfl
theorem x_copyi {K : CT} {cc : ByteArray} {own : String} {Ts : List Cond} {ret : Option FieldType} {fr lo nL0 pc : Nat} {L : List (Nat × Value)} {st : List Value} {G : G_} {sp dp n : Int32} {n0 n1 index : Nat} (hc : Ok K cc own Ts ret fr lo nL0) {p0 p1 : Nat} (hp0 : kd p0 = 10) (hn0 : ln p0 = n0) (hp1 : kd p1 = 10) (hn1 : ln p1 = n1) (hi : cpOk sp dp n n0 n1 = true) (hl1 : Cond.methodLink own index arraycopyName ∈ TB) (hl2 : Cond.native arraycopyName ∈ TB) (hl3 : Cond.static arraycopyName ∈ TB) (hl4 : Cond.initialized "java/lang/System" ∈ TB) (hfr : 1 ≤ fr) (hlo : (st.map fun v => v.category).sum + (nativeFrameWords "java/lang/System" "arraycopy" 5 + 11) ≤ lo) (hd : decode cc pc = .ok (.invokestatic index, 3)) (k : X K (pc + 3) L st (sC G p0 p1 sp dp n)) : X K pc L (.int n :: .int dp :: .ref (kad K p1) :: .int sp :: .ref (kad K p0) :: st) G := by
  obtain ⟨p, l, e, R, s, m, args, below, meth, c, nL, V, cells, slots, Q⟩ := K
  obtain ⟨hx, hb, hml, hown, hts, ⟨hK, hD, hH⟩, hlk, hr, hR, hnL, w0, hw0⟩ := hc
  subst hn0 hn1 hnL
  intro H locs ls hP hS hl
  simp only [cpOk, Bool.and_eq_true, decide_eq_true_eq] at hi
  have hlt := wv_lt (V := V) (kd_lt hp1 (by omega))
  refine va_copyi (c0 := V.2.1 10) (c1 := V.2.1 10) (n0 := ln p0) (n1 := ln p1) (f := G.1 p0) (g := G.1 p1) (ty := .int) hx hb (hml.trans hl.1.symm) hown (TB_use hts hw0 hl1) (TB_use hts hw0 hl2) (TB_use hts hw0 hl3) (TB_use hts hw0 hl4) hK.1 hP (hD G) hS p0 p1 1 1 (wl_arr V G hp0 (by omega) (by omega)) (wl_arr V G hp1 (by omega) (by omega)) rfl rfl rfl hi.1 hi.2.1 hi.2.2.1 hi.2.2.2.1 hi.2.2.2.2 (fun _ _ => rfl) (by rw [hR.1]; exact hfr) (by rw [hR.2.1]; exact hlo) hd (fun H1 locs1 hP1 hD1 hS1 => ?_)
  have e1 : (wl V G).set p1 (V.2.2.1 p1, .inl (V.2.1 10, ln p1, .inl (va_cpy (G.1 p0) (G.1 p1) sp.toNatClampNeg dp.toNatClampNeg n.toNatClampNeg))) = wl V (sC G p0 p1 sp dp n) := wl_set V hlt (by rw [en_arr hp1 (by omega) (by omega), show (sC G p0 p1 sp dp n).1 p1 = va_cpy (G.1 p0) (G.1 p1) sp.toNatClampNeg dp.toNatClampNeg n.toNatClampNeg from by funext a; simp [sC, ix]]) (fun q hq => en_sC_ne hq)
  have h2 : va_P V.1 vwCl ((wl V G).set p1 (V.2.2.1 p1, .inl (V.2.1 10, ln p1, .inl (va_cpy (G.1 p0) (G.1 p1) sp.toNatClampNeg dp.toNatClampNeg n.toNatClampNeg)))) H1 := hP1
  rw [e1] at h2
  exact k H1 locs1 ls h2 hS1 hl
def mx (x y : Int32) : Int32 := if x < y then y else x
def mn (x y : Int32) : Int32 := if y < x then y else x
def ab (x : Int32) : Int32 := if 0 ≤ x then x else 0 - x
theorem x_mmax {K : CT} {cc : ByteArray} {own : String} {Ts : List Cond} {ret : Option FieldType} {fr lo nL0 pc : Nat} {L : List (Nat × Value)} {st : List Value} {G : G_} {x y : Int32} {index : Nat} (hc : Ok K cc own Ts ret fr lo nL0) (hl1 : Cond.methodLink own index Lib.Math.max.name ∈ TB) (hl2 : Cond.static Lib.Math.max.name ∈ TB) (hl3 : Cond.initialized "java/lang/Math" ∈ TB) (hl4 : Cond.code Lib.Math.max.name Lib.Math.max.code 2 (some .int) ∈ TB) (hfr : 1 ≤ fr) (hlo : (st.map fun v => v.category).sum + 13 ≤ lo) (hd : decode cc pc = .ok (.invokestatic index, 3)) (k : X K (pc + 3) L (.int (mx x y) :: st) G) : X K pc L (.int y :: .int x :: st) G := by
  obtain ⟨p, l, e, R, s, m, args, below, meth, c, nL, V, cells, slots, Q⟩ := K
  obtain ⟨hx, hb, hml, hown, hts, ⟨hK, hD, hH⟩, hlk, hr, hR, hnL, w0, hw0⟩ := hc
  subst hnL
  exact fun H locs ls hP hS hl => va_mmax hx hb (hml.trans hl.1.symm) hown (TB_use hts hw0 hl1) (TB_use hts hw0 hl2) (TB_use hts hw0 hl3) (TB_use hts hw0 hl4) (by rw [hR.1]; exact hfr) (by rw [hR.2.1]; exact hlo) hR.2.2.1 hR.2.2.2 hd (k H locs ls hP hS hl)
theorem x_mmin {K : CT} {cc : ByteArray} {own : String} {Ts : List Cond} {ret : Option FieldType} {fr lo nL0 pc : Nat} {L : List (Nat × Value)} {st : List Value} {G : G_} {x y : Int32} {index : Nat} (hc : Ok K cc own Ts ret fr lo nL0) (hl1 : Cond.methodLink own index Lib.Math.min.name ∈ TB) (hl2 : Cond.static Lib.Math.min.name ∈ TB) (hl3 : Cond.initialized "java/lang/Math" ∈ TB) (hl4 : Cond.code Lib.Math.min.name Lib.Math.min.code 2 (some .int) ∈ TB) (hfr : 1 ≤ fr) (hlo : (st.map fun v => v.category).sum + 13 ≤ lo) (hd : decode cc pc = .ok (.invokestatic index, 3)) (k : X K (pc + 3) L (.int (mn x y) :: st) G) : X K pc L (.int y :: .int x :: st) G := by
  obtain ⟨p, l, e, R, s, m, args, below, meth, c, nL, V, cells, slots, Q⟩ := K
  obtain ⟨hx, hb, hml, hown, hts, ⟨hK, hD, hH⟩, hlk, hr, hR, hnL, w0, hw0⟩ := hc
  subst hnL
  exact fun H locs ls hP hS hl => va_mmin hx hb (hml.trans hl.1.symm) hown (TB_use hts hw0 hl1) (TB_use hts hw0 hl2) (TB_use hts hw0 hl3) (TB_use hts hw0 hl4) (by rw [hR.1]; exact hfr) (by rw [hR.2.1]; exact hlo) hR.2.2.1 hR.2.2.2 hd (k H locs ls hP hS hl)
theorem x_mabs {K : CT} {cc : ByteArray} {own : String} {Ts : List Cond} {ret : Option FieldType} {fr lo nL0 pc : Nat} {L : List (Nat × Value)} {st : List Value} {G : G_} {x : Int32} {index : Nat} (hc : Ok K cc own Ts ret fr lo nL0) (hl1 : Cond.methodLink own index Lib.Math.abs.name ∈ TB) (hl2 : Cond.static Lib.Math.abs.name ∈ TB) (hl3 : Cond.initialized "java/lang/Math" ∈ TB) (hl4 : Cond.code Lib.Math.abs.name Lib.Math.abs.code 1 (some .int) ∈ TB) (hfr : 1 ≤ fr) (hlo : (st.map fun v => v.category).sum + 13 ≤ lo) (hd : decode cc pc = .ok (.invokestatic index, 3)) (k : X K (pc + 3) L (.int (ab x) :: st) G) : X K pc L (.int x :: st) G := by
  obtain ⟨p, l, e, R, s, m, args, below, meth, c, nL, V, cells, slots, Q⟩ := K
  obtain ⟨hx, hb, hml, hown, hts, ⟨hK, hD, hH⟩, hlk, hr, hR, hnL, w0, hw0⟩ := hc
  subst hnL
  exact fun H locs ls hP hS hl => va_mabs hx hb (hml.trans hl.1.symm) hown (TB_use hts hw0 hl1) (TB_use hts hw0 hl2) (TB_use hts hw0 hl3) (TB_use hts hw0 hl4) (by rw [hR.1]; exact hfr) (by rw [hR.2.1]; exact hlo) hR.2.2.1 hR.2.2.2 hd (k H locs ls hP hS hl)
theorem x_getsPA {K : CT} {cc : ByteArray} {own : String} {Ts : List Cond} {ret : Option FieldType} {fr lo nL0 pc : Nat} {L : List (Nat × Value)} {st : List Value} {G : G_} {index : Nat} (hc : Ok K cc own Ts ret fr lo nL0) (hw : Cond.fieldLink own index "SlabTurn" "PARENT" "[I" ∈ TB) (hd : decode cc pc = .ok (.getstatic index, 3)) (k : X K (pc + 3) L (.ref (kst K 0) :: st) G) : X K pc L st G := by
  obtain ⟨p, l, e, R, s, m, args, below, meth, c, nL, V, cells, slots, Q⟩ := K
  obtain ⟨hx, hb, hml, hown, hts, ⟨hK, hD, hH⟩, hlk, hr, hR, hnL, w0, hw0⟩ := hc
  exact fun H locs ls hP hS hl => va_gets hx hb hH.1.1 hS hown (TB_use hts hw0 hw) (fun x h => h) hd (k H locs ls hP hS hl)
theorem x_tldPA {K : CT} {cc : ByteArray} {own : String} {Ts : List Cond} {ret : Option FieldType} {fr lo nL0 pc : Nat} {L : List (Nat × Value)} {st : List Value} {G : G_} {i : Int32} (hc : Ok K cc own Ts ret fr lo nL0) (hi : inb i 7 = true) (hd : decode cc pc = .ok (.iaload, 1)) (k : X K (pc + 1) L (.int (sPA (ix i)) :: st) G) : X K pc L (.int i :: .ref (kst K 0) :: st) G := by
  obtain ⟨p, l, e, R, s, m, args, below, meth, c, nL, V, cells, slots, Q⟩ := K
  obtain ⟨hx, hb, hml, hown, hts, ⟨hK, hD, hH⟩, hlk, hr, hR, hnL, w0, hw0⟩ := hc
  intro H locs ls hP hS hl
  obtain ⟨cell, h1, h2, h3, h4, h5, h6, h7⟩ := hH.1.2
  have hv := inb_in hi
  have hlt : i.toNatClampNeg < 7 := Nat.not_le.mp fun q => hv (Or.inr q)
  exact W.iald (v := .int (sPA (ix i))) hx hb ((hS.2.1 V.2.2.2.2.1 (Array.getElem?_eq_some_iff.mp h1).1 h7).trans h1) h2 h3 (fun q => hv (q.elim Or.inl (fun q => Or.inr (Nat.le_trans h4 q)))) (h6 _ hlt) rfl rfl hd (k H locs ls hP hS hl)
theorem x_tlenPA {K : CT} {cc : ByteArray} {own : String} {Ts : List Cond} {ret : Option FieldType} {fr lo nL0 pc : Nat} {L : List (Nat × Value)} {st : List Value} {G : G_} (hc : Ok K cc own Ts ret fr lo nL0) (hd : decode cc pc = .ok (.arraylength, 1)) (k : X K (pc + 1) L (.int 7 :: st) G) : X K pc L (.ref (kst K 0) :: st) G := by
  obtain ⟨p, l, e, R, s, m, args, below, meth, c, nL, V, cells, slots, Q⟩ := K
  obtain ⟨hx, hb, hml, hown, hts, ⟨hK, hD, hH⟩, hlk, hr, hR, hnL, w0, hw0⟩ := hc
  intro H locs ls hP hS hl
  obtain ⟨cell, h1, h2, h3, h4, h5, h6, h7⟩ := hH.1.2
  exact W.alen (n := 7) hx hb ((hS.2.1 V.2.2.2.2.1 (Array.getElem?_eq_some_iff.mp h1).1 h7).trans h1) h2 (by rw [h5]; rfl) rfl rfl hd (k H locs ls hP hS hl)
theorem x_getsTU {K : CT} {cc : ByteArray} {own : String} {Ts : List Cond} {ret : Option FieldType} {fr lo nL0 pc : Nat} {L : List (Nat × Value)} {st : List Value} {G : G_} {index : Nat} (hc : Ok K cc own Ts ret fr lo nL0) (hw : Cond.fieldLink own index "SlabTurn" "TURNS_TRIED" "[I" ∈ TB) (hd : decode cc pc = .ok (.getstatic index, 3)) (k : X K (pc + 3) L (.ref (kst K 1) :: st) G) : X K pc L st G := by
  obtain ⟨p, l, e, R, s, m, args, below, meth, c, nL, V, cells, slots, Q⟩ := K
  obtain ⟨hx, hb, hml, hown, hts, ⟨hK, hD, hH⟩, hlk, hr, hR, hnL, w0, hw0⟩ := hc
  exact fun H locs ls hP hS hl => va_gets hx hb hH.2.1.1 hS hown (TB_use hts hw0 hw) (fun x h => h) hd (k H locs ls hP hS hl)
theorem x_tldTU {K : CT} {cc : ByteArray} {own : String} {Ts : List Cond} {ret : Option FieldType} {fr lo nL0 pc : Nat} {L : List (Nat × Value)} {st : List Value} {G : G_} {i : Int32} (hc : Ok K cc own Ts ret fr lo nL0) (hi : inb i 5 = true) (hd : decode cc pc = .ok (.iaload, 1)) (k : X K (pc + 1) L (.int (sTU (ix i)) :: st) G) : X K pc L (.int i :: .ref (kst K 1) :: st) G := by
  obtain ⟨p, l, e, R, s, m, args, below, meth, c, nL, V, cells, slots, Q⟩ := K
  obtain ⟨hx, hb, hml, hown, hts, ⟨hK, hD, hH⟩, hlk, hr, hR, hnL, w0, hw0⟩ := hc
  intro H locs ls hP hS hl
  obtain ⟨cell, h1, h2, h3, h4, h5, h6, h7⟩ := hH.2.1.2
  have hv := inb_in hi
  have hlt : i.toNatClampNeg < 5 := Nat.not_le.mp fun q => hv (Or.inr q)
  exact W.iald (v := .int (sTU (ix i))) hx hb ((hS.2.1 V.2.2.2.2.2.1 (Array.getElem?_eq_some_iff.mp h1).1 h7).trans h1) h2 h3 (fun q => hv (q.elim Or.inl (fun q => Or.inr (Nat.le_trans h4 q)))) (h6 _ hlt) rfl rfl hd (k H locs ls hP hS hl)
theorem x_tlenTU {K : CT} {cc : ByteArray} {own : String} {Ts : List Cond} {ret : Option FieldType} {fr lo nL0 pc : Nat} {L : List (Nat × Value)} {st : List Value} {G : G_} (hc : Ok K cc own Ts ret fr lo nL0) (hd : decode cc pc = .ok (.arraylength, 1)) (k : X K (pc + 1) L (.int 5 :: st) G) : X K pc L (.ref (kst K 1) :: st) G := by
  obtain ⟨p, l, e, R, s, m, args, below, meth, c, nL, V, cells, slots, Q⟩ := K
  obtain ⟨hx, hb, hml, hown, hts, ⟨hK, hD, hH⟩, hlk, hr, hR, hnL, w0, hw0⟩ := hc
  intro H locs ls hP hS hl
  obtain ⟨cell, h1, h2, h3, h4, h5, h6, h7⟩ := hH.2.1.2
  exact W.alen (n := 5) hx hb ((hS.2.1 V.2.2.2.2.2.1 (Array.getElem?_eq_some_iff.mp h1).1 h7).trans h1) h2 (by rw [h5]; rfl) rfl rfl hd (k H locs ls hP hS hl)
theorem x_iret {K : CT} {cc : ByteArray} {own : String} {Ts : List Cond} {ret : Option FieldType} {fr lo nL0 pc : Nat} {L : List (Nat × Value)} {G : G_} {v : Int32} (hc : Ok K cc own Ts ret fr lo nL0) (hret : ret = some .int) (ho : Rets K (some (.int v)) G) (hd : decode cc pc = .ok (.ireturn, 1)) : X K pc L [.int v] G := by
  obtain ⟨p, l, e, R, s, m, args, below, meth, c, nL, V, cells, slots, Q⟩ := K
  obtain ⟨hx, hb, hml, hown, hts, ⟨hK, hD, hH⟩, hlk, hr, hR, hnL, w0, hw0⟩ := hc
  have ho : Q = _ := ho
  subst ho
  subst hret
  exact fun H locs ls hP hS hl => W.iret hx hb hr (fun t ht hW => ⟨⟨rfl, by rw [ht]; exact hP⟩, hS.F ht⟩) hS.2.2 hd hlk
theorem x_zret {K : CT} {cc : ByteArray} {own : String} {Ts : List Cond} {ret : Option FieldType} {fr lo nL0 pc : Nat} {L : List (Nat × Value)} {G : G_} {v : Int32} (hc : Ok K cc own Ts ret fr lo nL0) (hret : ret = some .boolean) (hz : isZ v = true) (ho : Rets K (some (.int v)) G) (hd : decode cc pc = .ok (.ireturn, 1)) : X K pc L [.int v] G := by
  obtain ⟨p, l, e, R, s, m, args, below, meth, c, nL, V, cells, slots, Q⟩ := K
  obtain ⟨hx, hb, hml, hown, hts, ⟨hK, hD, hH⟩, hlk, hr, hR, hnL, w0, hw0⟩ := hc
  have ho : Q = _ := ho
  subst ho
  subst hret
  exact fun H locs ls hP hS hl => W.zret hx hb hr (isZ_narrow hz).1 (fun t ht hW => ⟨⟨rfl, by rw [ht]; exact hP⟩, hS.F ht⟩) hS.2.2 hd hlk
theorem x_lret {K : CT} {cc : ByteArray} {own : String} {Ts : List Cond} {ret : Option FieldType} {fr lo nL0 pc : Nat} {L : List (Nat × Value)} {G : G_} {v : Int64} (hc : Ok K cc own Ts ret fr lo nL0) (hret : ret = some .long) (ho : Rets K (some (.long v)) G) (hd : decode cc pc = .ok (.lreturn, 1)) : X K pc L [.long v] G := by
  obtain ⟨p, l, e, R, s, m, args, below, meth, c, nL, V, cells, slots, Q⟩ := K
  obtain ⟨hx, hb, hml, hown, hts, ⟨hK, hD, hH⟩, hlk, hr, hR, hnL, w0, hw0⟩ := hc
  have ho : Q = _ := ho
  subst ho
  subst hret
  exact fun H locs ls hP hS hl => W.lret hx hb hr (fun t ht hW => ⟨⟨rfl, by rw [ht]; exact hP⟩, hS.F ht⟩) hS.2.2 hd hlk
theorem x_vret {K : CT} {cc : ByteArray} {own : String} {Ts : List Cond} {ret : Option FieldType} {fr lo nL0 pc : Nat} {L : List (Nat × Value)} {G : G_} (hc : Ok K cc own Ts ret fr lo nL0) (hret : ret = none) (ho : Rets K none G) (hd : decode cc pc = .ok (.return_, 1)) : X K pc L [] G := by
  obtain ⟨p, l, e, R, s, m, args, below, meth, c, nL, V, cells, slots, Q⟩ := K
  obtain ⟨hx, hb, hml, hown, hts, ⟨hK, hD, hH⟩, hlk, hr, hR, hnL, w0, hw0⟩ := hc
  have ho : Q = _ := ho
  subst ho
  subst hret
  exact fun H locs ls hP hS hl => W.vret hx hb hr (fun t ht hW => ⟨⟨rfl, by rw [ht]; exact hP⟩, hS.F ht⟩) hS.2.2 hd hlk
theorem x_aret {K : CT} {cc : ByteArray} {own : String} {Ts : List Cond} {ret : Option FieldType} {fr lo nL0 pc : Nat} {L : List (Nat × Value)} {G : G_} {q : Option Nat} {C : String} (hc : Ok K cc own Ts ret fr lo nL0) (hret : ret = some (.object C)) (ho : Rets K (some (rfo K q)) G) (hd : decode cc pc = .ok (.areturn, 1)) : X K pc L [rfo K q] G := by
  obtain ⟨p, l, e, R, s, m, args, below, meth, c, nL, V, cells, slots, Q⟩ := K
  obtain ⟨hx, hb, hml, hown, hts, ⟨hK, hD, hH⟩, hlk, hr, hR, hnL, w0, hw0⟩ := hc
  have ho : Q = MQ below (QO V (some (va_rf (q.map V.2.2.1))) G) args s cells slots V.2.2.2.1 := ho
  subst ho hret
  refine fun H locs ls hP hS hl => W.aret (v := va_rf (q.map V.2.2.1)) hx hb hr (Or.inl ⟨C, rfl⟩) ?_ (fun t ht hW => ⟨⟨rfl, by rw [ht]; exact hP⟩, hS.F ht⟩) hS.2.2 hd hlk
  cases q with
  | none => exact Or.inl rfl
  | some q => exact Or.inr ⟨_, rfl⟩
theorem x_ldc {K : CT} {cc : ByteArray} {own : String} {Ts : List Cond} {ret : Option FieldType} {fr lo nL0 pc : Nat} {L : List (Nat × Value)} {st : List Value} {G : G_} {index : Nat} {v : Int32} (hc : Ok K cc own Ts ret fr lo nL0) (hd : decode cc pc = .ok (.ldc index, 2)) (hw : Cond.constant own index v ∈ TB) (k : X K (pc + 2) L (.int v :: st) G) : X K pc L st G := by
  obtain ⟨p, l, e, R, s, m, args, below, meth, c, nL, V, cells, slots, Q⟩ := K
  obtain ⟨hx, hb, hml, hown, hts, ⟨hK, hD, hH⟩, hlk, hr, hR, hnL, w0, hw0⟩ := hc
  exact fun H locs ls hP hS hl => lv_ldc hx hb hown (TB_use hts hw0 hw) hd (k H locs ls hP hS hl)
/-- a row of the law's own, as far as it is made -/
def AOK (V : VT) (p n : Nat) : Prop := kd p = 17 ∧ ln p = n ∧ p < wv_n V
theorem aok_l {V : VT} {p n m : Nat} (h : vNL V = m) (h1 : kd p = 17) (h2 : ln p = n) (h3 : p < NO + min 6 m) : AOK V p n := ⟨h1, h2, by show p < NO + min 6 (vNL V); rw [h]; exact h3⟩
def SCO (V : VT) (sl : Nat) (xs : Nat → Int32) : Prop := vSL V = sl ∧ vXS V = xs
theorem x_ialoadA {K : CT} {cc : ByteArray} {own : String} {Ts : List Cond} {ret : Option FieldType} {fr lo nL0 pc : Nat} {L : List (Nat × Value)} {st : List Value} {G : G_} {i : Int32} {n : Nat} (hc : Ok K cc own Ts ret fr lo nL0) {p0 : Nat} (hp : AOK (kV K) p0 n) (hi : inb i n = true) (hd : decode cc pc = .ok (.iaload, 1)) (k : X K (pc + 1) L (.int (G.1 p0 (ix i)) :: st) G) : X K pc L (.int i :: .ref (kad K p0) :: st) G := by
  obtain ⟨p, l, e, R, s, m, args, below, meth, c, nL, V, cells, slots, Q⟩ := K
  obtain ⟨hx, hb, hml, hown, hts, ⟨hK, hD, hH⟩, hlk, hr, hR, hnL, w0, hw0⟩ := hc
  obtain ⟨hp1, hn, hp2⟩ := hp
  subst hn
  intro H locs ls hP hS hl
  exact va_iald (cA := V.2.1 10) (n := ln p0) (f := G.1 p0) hx hb hK.1 hP p0 1 (wl_la V G hp1 hp2) rfl (inb_in hi) hd (k H locs ls hP hS hl)
theorem x_iastoreA {K : CT} {cc : ByteArray} {own : String} {Ts : List Cond} {ret : Option FieldType} {fr lo nL0 pc : Nat} {L : List (Nat × Value)} {st : List Value} {G : G_} {i v : Int32} {n : Nat} (hc : Ok K cc own Ts ret fr lo nL0) {p0 : Nat} (hp : AOK (kV K) p0 n) (hi : inb i n = true) (hd : decode cc pc = .ok (.iastore, 1)) (k : X K (pc + 1) L st (sI G p0 (ix i) v)) : X K pc L (.int v :: .int i :: .ref (kad K p0) :: st) G := by
  obtain ⟨p, l, e, R, s, m, args, below, meth, c, nL, V, cells, slots, Q⟩ := K
  obtain ⟨hx, hb, hml, hown, hts, ⟨hK, hD, hH⟩, hlk, hr, hR, hnL, w0, hw0⟩ := hc
  obtain ⟨hp1, hn, hp2⟩ := hp
  subst hn
  intro H locs ls hP hS hl
  refine va_iast (cA := V.2.1 10) (n := ln p0) (f := G.1 p0) hx hb hK.1 hP (hD G) hS p0 1 (wl_la V G hp1 hp2) rfl (inb_in hi) hd (fun H1 locs1 hP1 hD1 hS1 => ?_)
  have e0 : upd (G.1 p0) i.toNatClampNeg v = (sI G p0 (ix i) v).1 p0 := by
    funext a
    simp only [sI, u2, upd, ix, if_true]
  have e1 : (wl V G).set p0 (V.2.2.1 p0, .inl (V.2.1 10, ln p0, .inl (upd (G.1 p0) i.toNatClampNeg v))) = wl V (sI G p0 (ix i) v) := wl_set V hp2 (by rw [en_la hp1, e0]) (fun q hq => en_sI_ne hq)
  have h2 : va_P V.1 vwCl ((wl V G).set p0 (V.2.2.1 p0, .inl (V.2.1 10, ln p0, .inl (upd (G.1 p0) i.toNatClampNeg v)))) H1 := hP1
  rw [e1] at h2
  exact k H1 locs1 ls h2 hS1 hl
theorem x_sld {K : CT} {cc : ByteArray} {own : String} {Ts : List Cond} {ret : Option FieldType} {fr lo nL0 pc : Nat} {L : List (Nat × Value)} {st : List Value} {G : G_} {i : Int32} {sl : Nat} {xs : Nat → Int32} (hc : Ok K cc own Ts ret fr lo nL0) (hs : SCO (kV K) sl xs) (hi : inb i sl = true) (hd : decode cc pc = .ok (.iaload, 1)) (k : X K (pc + 1) L (.int (xs (ix i)) :: st) G) : X K pc L (.int i :: .ref (vSB (kV K)) :: st) G := by
  obtain ⟨p, l, e, R, s, m, args, below, meth, c, nL, V, cells, slots, Q⟩ := K
  obtain ⟨hx, hb, hml, hown, hts, ⟨hK, hD, hH⟩, hlk, hr, hR, hnL, w0, hw0⟩ := hc
  obtain ⟨hs1, hs2⟩ := hs
  subst hs1 hs2
  intro H locs ls hP hS hl
  obtain ⟨cell, h1, h2, h3, h4, h5, h6, h7⟩ := hH.2.2
  have hv := inb_in hi
  have hlt : i.toNatClampNeg < vSL V := Nat.not_le.mp fun q => hv (Or.inr q)
  exact W.iald (v := .int (vXS V (ix i))) hx hb ((hS.2.1 (vSB V) (Array.getElem?_eq_some_iff.mp h1).1 h7).trans h1) h2 h3 (fun q => hv (q.elim Or.inl (fun q => Or.inr (Nat.le_trans h4 q)))) (h6 _ hlt) rfl rfl hd (k H locs ls hP hS hl)
theorem x_slen {K : CT} {cc : ByteArray} {own : String} {Ts : List Cond} {ret : Option FieldType} {fr lo nL0 pc : Nat} {L : List (Nat × Value)} {st : List Value} {G : G_} {sl : Nat} {xs : Nat → Int32} (hc : Ok K cc own Ts ret fr lo nL0) (hs : SCO (kV K) sl xs) (hd : decode cc pc = .ok (.arraylength, 1)) (k : X K (pc + 1) L (.int (Int32.ofNat sl) :: st) G) : X K pc L (.ref (vSB (kV K)) :: st) G := by
  obtain ⟨p, l, e, R, s, m, args, below, meth, c, nL, V, cells, slots, Q⟩ := K
  obtain ⟨hx, hb, hml, hown, hts, ⟨hK, hD, hH⟩, hlk, hr, hR, hnL, w0, hw0⟩ := hc
  obtain ⟨hs1, hs2⟩ := hs
  subst hs1 hs2
  intro H locs ls hP hS hl
  obtain ⟨cell, h1, h2, h3, h4, h5, h6, h7⟩ := hH.2.2
  exact W.alen (n := Int32.ofNat (vSL V)) hx hb ((hS.2.1 (vSB V) (Array.getElem?_eq_some_iff.mp h1).1 h7).trans h1) h2 h5 rfl rfl hd (k H locs ls hP hS hl)
def MWV (y : MethodName) (bytes : ByteArray) (maxL : Nat) (rt : Option FieldType) (n : Nat) : Prop := (y.cls ≠ "java/lang/invoke/MethodHandle" ∧ y.cls ≠ "java/lang/invoke/VarHandle" ∧ (parseMethodDescriptor y.desc).map (fun d => d.parameters.length) = some n) ∧ Cond.code y bytes maxL rt ∈ TB ∧ Cond.initialized y.cls ∈ TB ∧ Cond.instanceMethod y ∈ TB ∧ Cond.selects y.cls y y ∈ TB
def MWS (y : MethodName) (bytes : ByteArray) (maxL : Nat) (rt : Option FieldType) (n : Nat) : Prop := (y.cls ≠ "java/lang/invoke/MethodHandle" ∧ y.cls ≠ "java/lang/invoke/VarHandle" ∧ (parseMethodDescriptor y.desc).map (fun d => d.parameters.length) = some n) ∧ Cond.code y bytes maxL rt ∈ TB ∧ Cond.initialized y.cls ∈ TB ∧ Cond.static y ∈ TB
section XC
variable {p : Program} {l : Launch} {e : Env} {R : Room} {s : State} {m : MethodId} {args : Array Value} {below : List Frame} {meth : Method} {c : Code} {H : Heap} {locs : List Loc} {V : VT} {o1 : Option Value} {G G1 : G_} {nL pc cells slots : Nat} {Q : State → Prop} {ls : Array Slot} {L : List (Nat × Value)} {rest st0 : List Value} {a : Array Value}
theorem x_back (hr : va_Run p l e R s m args below meth c H locs cells slots 0 0 (F0 m pc ls st0) rest (QO V o1 G1 a) V.2.2.2.1) (hS : va_S V.2.2.2.1 s.heap H locs) (hl : lv_has ls nL L) (k : X (p, l, e, R, s, m, args, below, meth, c, nL, V, cells, slots, Q) (pc + 3) L (o1.toList ++ rest) G1) : W p l e R s m args below meth c H locs cells slots Q (F0 m pc ls st0) := by
  intro T hT X0
  obtain ⟨v, st₀, t, T', L1, h0, X', hL, e1, e2, ⟨⟨hv, hp⟩, hz, hk⟩, st⟩ := hr T hT X0
  cases hv
  rw [h0] at hz hk
  obtain ⟨t2, a1, b1⟩ := k T'.heap (locs ++ L1) ls (by rw [e1]; exact hp) ⟨Nat.le_trans hS.1 (by rw [e1]; exact hz), fun q h1 h2 => by rw [e1, hk q (Nat.lt_of_lt_of_le h1 hS.1) h2]; exact hS.2.1 q h1 h2, fun q hq => by
      rcases List.mem_append.mp hq with h | h
      · exact hS.2.2 q h
      · exact hL q h⟩ hl T' rfl X'
  exact ⟨t2, st t2 a1, b1⟩
theorem x_pre {As : List Value} (hK : VK V s) (hD : VD V) (hH : VH V s s.heap) (hS : va_S V.2.2.2.1 s.heap H locs) (hP : va_P V.1 vwCl (wl V G) H) : PreS s H (va_Pc As (VW V G)) As :=
  ⟨fun _ _ g mk q => ⟨q.1, q.2.calling g mk _⟩, fun U hU hW => ⟨rfl, hK.warm hW, hD, by rw [hU]; exact (hH.kept (fun a h1 h2 => hS.2.1 a h1 h2)).warm hW, by rw [hU]; exact hP⟩⟩
end XC
theorem x_callVv {K : CT} {cc : ByteArray} {own : String} {Ts : List Cond} {ret : Option FieldType} {fr lo nL0 pc : Nat} {L : List (Nat × Value)} {st : List Value} {G : G_} {y : MethodName} {bytes : ByteArray} {maxL n index frc loc : Nat} {rt : Option FieldType} {As : List Value} {G1 : G_}  (hc : Ok K cc own Ts ret fr lo nL0) {p0 ci : Nat} {T : u_T} {N : Nat} (hM : MC (kl K) (kV K) y bytes maxL rt frc loc (.ref (kad K p0) :: As) G none G1) (mw : MWV y bytes maxL rt n) (hlink : Cond.methodLink own index y ∈ TB) (hp : kd p0 = ci) (hci : ci < 9) (hcl : vwCl[ci]? = some (y.cls, T, N)) (hn : As.length = n) (hw : (st.map fun v => v.category).sum ≤ 8) (hroom : frc + 1 ≤ fr ∧ 8 + (maxL + 11) + loc ≤ lo) (hd : decode cc pc = .ok (.invokevirtual index, 3)) {st0 : List Value} (hst : st0 = As.reverse ++ .ref (kad K p0) :: st) (k : X K (pc + 3) L (st) G1) : X K pc L st0 G := by
  obtain ⟨p, l, e, R, s, m, args, below, meth, c, nL, V, cells, slots, Q⟩ := K
  obtain ⟨hx, hb, hml, hown, hts, ⟨hK, hD, hH⟩, hlk, hr, hR, hnL, w0, hw0⟩ := hc
  obtain ⟨hd1, hcode, hini, hinst, hsel⟩ := mw
  intro H locs ls hP hS hl
  subst hw0 hnL
  have hpre := x_pre (As := .ref (V.2.2.1 p0) :: As) hK hD hH hS hP
  refine x_back (va_runV (As := As) (rest := st) (C := y.cls) (b := V.2.2.1 p0) ⟨hx, hb, hml, hown, hts⟩ hM (cwV n hts (TB_in (fun w hw1 => ?_)) rfl rfl rfl ⟨rfl, hd1.1, hd1.2.1, hd1.2.2⟩ (by rw [hR.1, hR.2.1]; exact hroom)) ⟨hpre.1, va_recv hK.1 hP (ci := ci) (q0 := p0) hcl (wl_obj V G hp hci), hpre.2⟩ rfl hn hl.1 hst (lv_room hw) hd ⟨hR.2.2.1, hR.2.2.2⟩) hS hl k
  rcases List.mem_append.mp hw1 with h | h
  · simp only [List.mem_cons, List.not_mem_nil, or_false] at h
    rcases h with rfl | rfl | rfl | rfl
    · exact hlink
    · exact hinst
    · exact hsel
    · exact hini
  · rcases List.mem_cons.mp h with rfl | h
    · exact hcode
    · exact h
theorem x_callSv {K : CT} {cc : ByteArray} {own : String} {Ts : List Cond} {ret : Option FieldType} {fr lo nL0 pc : Nat} {L : List (Nat × Value)} {st : List Value} {G : G_} {y : MethodName} {bytes : ByteArray} {maxL n index frc loc : Nat} {rt : Option FieldType} {As : List Value} {G1 : G_}  (hc : Ok K cc own Ts ret fr lo nL0) (hM : MC (kl K) (kV K) y bytes maxL rt frc loc As G none G1) (mw : MWS y bytes maxL rt n) (hlink : Cond.methodLink own index y ∈ TB) (hn : As.length = n) (hw : (st.map fun v => v.category).sum ≤ 8) (hroom : frc + 1 ≤ fr ∧ 8 + (maxL + 11) + loc ≤ lo) (hd : decode cc pc = .ok (.invokestatic index, 3)) {st0 : List Value} (hst : st0 = As.reverse ++ st) (k : X K (pc + 3) L (st) G1) : X K pc L st0 G := by
  obtain ⟨p, l, e, R, s, m, args, below, meth, c, nL, V, cells, slots, Q⟩ := K
  obtain ⟨hx, hb, hml, hown, hts, ⟨hK, hD, hH⟩, hlk, hr, hR, hnL, w0, hw0⟩ := hc
  obtain ⟨hd1, hcode, hini, hstt⟩ := mw
  intro H locs ls hP hS hl
  subst hw0 hnL
  refine x_back (va_runS (As := As) (rest := st) ⟨hx, hb, hml, hown, hts⟩ hM (va_cwS n hts (TB_in (fun w hw1 => ?_)) rfl rfl rfl hd1 (by rw [hR.1, hR.2.1]; exact hroom)) (x_pre hK hD hH hS hP) rfl hn hl.1 hst (lv_room hw) hd ⟨hR.2.2.1, hR.2.2.2⟩) hS hl k
  rcases List.mem_append.mp hw1 with h | h
  · simp only [List.mem_cons, List.not_mem_nil, or_false] at h
    rcases h with rfl | rfl | rfl
    · exact hlink
    · exact hstt
    · exact hini
  · rcases List.mem_cons.mp h with rfl | h
    · exact hcode
    · exact h
theorem x_callSNv {K : CT} {cc : ByteArray} {own : String} {Ts : List Cond} {ret : Option FieldType} {fr lo nL0 pc : Nat} {L : List (Nat × Value)} {st : List Value} {G : G_} {y : MethodName} {bytes : ByteArray} {maxL n index frc loc : Nat} {rt : Option FieldType} {As : List Value} {G1 : G_}  {host : String} (hc : Ok K cc own Ts ret fr lo nL0) (hM : MC (kl K) (kV K) y bytes maxL rt frc loc As G none G1) (mw : MWS y bytes maxL rt n) (hlink : Cond.methodLinkNest own index y host ∈ nestWs) (hn : As.length = n) (hw : (st.map fun v => v.category).sum ≤ 8) (hroom : frc + 1 ≤ fr ∧ 8 + (maxL + 11) + loc ≤ lo) (hd : decode cc pc = .ok (.invokestatic index, 3)) {st0 : List Value} (hst : st0 = As.reverse ++ st) (k : X K (pc + 3) L (st) G1) : X K pc L st0 G := by
  obtain ⟨p, l, e, R, s, m, args, below, meth, c, nL, V, cells, slots, Q⟩ := K
  obtain ⟨hx, hb, hml, hown, hts, ⟨hK, hD, hH⟩, hlk, hr, hR, hnL, w0, hw0⟩ := hc
  obtain ⟨hd1, hcode, hini, hstt⟩ := mw
  intro H locs ls hP hS hl
  subst hw0 hnL
  refine x_back (va_runSN (As := As) (rest := st) ⟨hx, hb, hml, hown, hts⟩ hM ⟨va_cnB n hts (TB_in (fun w hw1 => ?_)) rfl rfl rfl (hK.2 _ hlink) (TB_use hts rfl hini) hd1 (by rw [hR.1, hR.2.1]; exact hroom), TB_use hts rfl hstt, trivial⟩ (x_pre hK hD hH hS hP) rfl hn hl.1 hst (lv_room hw) hd ⟨hR.2.2.1, hR.2.2.2⟩) hS hl k
  rcases List.mem_cons.mp hw1 with rfl | h
  · exact hcode
  · exact h
theorem x_callVr {K : CT} {cc : ByteArray} {own : String} {Ts : List Cond} {ret : Option FieldType} {fr lo nL0 pc : Nat} {L : List (Nat × Value)} {st : List Value} {G : G_} {y : MethodName} {bytes : ByteArray} {maxL n index frc loc : Nat} {rt : Option FieldType} {As : List Value} {G1 : G_} {v : Value} (hc : Ok K cc own Ts ret fr lo nL0) {p0 ci : Nat} {T : u_T} {N : Nat} (hM : MC (kl K) (kV K) y bytes maxL rt frc loc (.ref (kad K p0) :: As) G (some v) G1) (mw : MWV y bytes maxL rt n) (hlink : Cond.methodLink own index y ∈ TB) (hp : kd p0 = ci) (hci : ci < 9) (hcl : vwCl[ci]? = some (y.cls, T, N)) (hn : As.length = n) (hw : (st.map fun v => v.category).sum ≤ 8) (hroom : frc + 1 ≤ fr ∧ 8 + (maxL + 11) + loc ≤ lo) (hd : decode cc pc = .ok (.invokevirtual index, 3)) {st0 : List Value} (hst : st0 = As.reverse ++ .ref (kad K p0) :: st) (k : X K (pc + 3) L (v :: st) G1) : X K pc L st0 G := by
  obtain ⟨p, l, e, R, s, m, args, below, meth, c, nL, V, cells, slots, Q⟩ := K
  obtain ⟨hx, hb, hml, hown, hts, ⟨hK, hD, hH⟩, hlk, hr, hR, hnL, w0, hw0⟩ := hc
  obtain ⟨hd1, hcode, hini, hinst, hsel⟩ := mw
  intro H locs ls hP hS hl
  subst hw0 hnL
  have hpre := x_pre (As := .ref (V.2.2.1 p0) :: As) hK hD hH hS hP
  refine x_back (va_runV (As := As) (rest := st) (C := y.cls) (b := V.2.2.1 p0) ⟨hx, hb, hml, hown, hts⟩ hM (cwV n hts (TB_in (fun w hw1 => ?_)) rfl rfl rfl ⟨rfl, hd1.1, hd1.2.1, hd1.2.2⟩ (by rw [hR.1, hR.2.1]; exact hroom)) ⟨hpre.1, va_recv hK.1 hP (ci := ci) (q0 := p0) hcl (wl_obj V G hp hci), hpre.2⟩ rfl hn hl.1 hst (lv_room hw) hd ⟨hR.2.2.1, hR.2.2.2⟩) hS hl k
  rcases List.mem_append.mp hw1 with h | h
  · simp only [List.mem_cons, List.not_mem_nil, or_false] at h
    rcases h with rfl | rfl | rfl | rfl
    · exact hlink
    · exact hinst
    · exact hsel
    · exact hini
  · rcases List.mem_cons.mp h with rfl | h
    · exact hcode
    · exact h
theorem x_callSr {K : CT} {cc : ByteArray} {own : String} {Ts : List Cond} {ret : Option FieldType} {fr lo nL0 pc : Nat} {L : List (Nat × Value)} {st : List Value} {G : G_} {y : MethodName} {bytes : ByteArray} {maxL n index frc loc : Nat} {rt : Option FieldType} {As : List Value} {G1 : G_} {v : Value} (hc : Ok K cc own Ts ret fr lo nL0) (hM : MC (kl K) (kV K) y bytes maxL rt frc loc As G (some v) G1) (mw : MWS y bytes maxL rt n) (hlink : Cond.methodLink own index y ∈ TB) (hn : As.length = n) (hw : (st.map fun v => v.category).sum ≤ 8) (hroom : frc + 1 ≤ fr ∧ 8 + (maxL + 11) + loc ≤ lo) (hd : decode cc pc = .ok (.invokestatic index, 3)) {st0 : List Value} (hst : st0 = As.reverse ++ st) (k : X K (pc + 3) L (v :: st) G1) : X K pc L st0 G := by
  obtain ⟨p, l, e, R, s, m, args, below, meth, c, nL, V, cells, slots, Q⟩ := K
  obtain ⟨hx, hb, hml, hown, hts, ⟨hK, hD, hH⟩, hlk, hr, hR, hnL, w0, hw0⟩ := hc
  obtain ⟨hd1, hcode, hini, hstt⟩ := mw
  intro H locs ls hP hS hl
  subst hw0 hnL
  refine x_back (va_runS (As := As) (rest := st) ⟨hx, hb, hml, hown, hts⟩ hM (va_cwS n hts (TB_in (fun w hw1 => ?_)) rfl rfl rfl hd1 (by rw [hR.1, hR.2.1]; exact hroom)) (x_pre hK hD hH hS hP) rfl hn hl.1 hst (lv_room hw) hd ⟨hR.2.2.1, hR.2.2.2⟩) hS hl k
  rcases List.mem_append.mp hw1 with h | h
  · simp only [List.mem_cons, List.not_mem_nil, or_false] at h
    rcases h with rfl | rfl | rfl
    · exact hlink
    · exact hstt
    · exact hini
  · rcases List.mem_cons.mp h with rfl | h
    · exact hcode
    · exact h
theorem x_callSNr {K : CT} {cc : ByteArray} {own : String} {Ts : List Cond} {ret : Option FieldType} {fr lo nL0 pc : Nat} {L : List (Nat × Value)} {st : List Value} {G : G_} {y : MethodName} {bytes : ByteArray} {maxL n index frc loc : Nat} {rt : Option FieldType} {As : List Value} {G1 : G_} {v : Value} {host : String} (hc : Ok K cc own Ts ret fr lo nL0) (hM : MC (kl K) (kV K) y bytes maxL rt frc loc As G (some v) G1) (mw : MWS y bytes maxL rt n) (hlink : Cond.methodLinkNest own index y host ∈ nestWs) (hn : As.length = n) (hw : (st.map fun v => v.category).sum ≤ 8) (hroom : frc + 1 ≤ fr ∧ 8 + (maxL + 11) + loc ≤ lo) (hd : decode cc pc = .ok (.invokestatic index, 3)) {st0 : List Value} (hst : st0 = As.reverse ++ st) (k : X K (pc + 3) L (v :: st) G1) : X K pc L st0 G := by
  obtain ⟨p, l, e, R, s, m, args, below, meth, c, nL, V, cells, slots, Q⟩ := K
  obtain ⟨hx, hb, hml, hown, hts, ⟨hK, hD, hH⟩, hlk, hr, hR, hnL, w0, hw0⟩ := hc
  obtain ⟨hd1, hcode, hini, hstt⟩ := mw
  intro H locs ls hP hS hl
  subst hw0 hnL
  refine x_back (va_runSN (As := As) (rest := st) ⟨hx, hb, hml, hown, hts⟩ hM ⟨va_cnB n hts (TB_in (fun w hw1 => ?_)) rfl rfl rfl (hK.2 _ hlink) (TB_use hts rfl hini) hd1 (by rw [hR.1, hR.2.1]; exact hroom), TB_use hts rfl hstt, trivial⟩ (x_pre hK hD hH hS hP) rfl hn hl.1 hst (lv_room hw) hd ⟨hR.2.2.1, hR.2.2.2⟩) hS hl k
  rcases List.mem_cons.mp hw1 with rfl | h
  · exact hcode
  · exact h
/-! two objects: the second one is the first one, seen the other way round -/
def swp (p : Nat) : Nat := if p < 124 then p + 124 else if p < 248 then p - 124 else p
theorem swp_swp (p : Nat) : swp (swp p) = p := by
  unfold swp
  by_cases h : p < 124
  · rw [if_pos h, if_neg (by omega), if_pos (by omega)]
    omega
  · rw [if_neg h]
    by_cases h2 : p < 248
    · rw [if_pos h2, if_pos (by omega)]
      omega
    · rw [if_neg h2, if_neg h, if_neg h2]
def swG (G : G_) : G_ := (fun p => G.1 (swp p), fun p => G.2 (swp p))
theorem swG_swG (G : G_) : swG (swG G) = G := by
  refine Prod.ext (funext fun p => ?_) (funext fun p => ?_)
  · show G.1 (swp (swp p)) = G.1 p
    rw [swp_swp]
  · show G.2 (swp (swp p)) = G.2 p
    rw [swp_swp]
def swV (V : VT) : VT := (V.1, V.2.1, (fun p => V.2.2.1 (swp p)), V.2.2.2)
theorem swV_swV (V : VT) : swV (swV V) = V := by
  show (V.1, V.2.1, (fun p => V.2.2.1 (swp (swp p))), V.2.2.2) = V
  simp only [swp_swp]
theorem swp_tab : ∀ p, p < NP → (kd (swp p) = kd p ∧ ln (swp p) = ln p) ∧ (p < NO → swp p < NO) ∧ (NO ≤ p → swp p = p) ∧ kd p ≤ 17 := by decide +kernel
theorem swp_fl : ∀ p, p < NO → kd p < 9 → ∀ d ∈ fl (kd p), 2 ≤ d.1 → swp (p + d.2) = swp p + d.2 ∧ p + d.2 < NO := by decide +kernel
theorem swp_ra : ∀ p, p < NO → 12 ≤ kd p → ∀ i, i < ln p → swp (rbp p + rs (kd p) * i) = rbp (swp p) + rs (kd p) * i ∧ rbp p + rs (kd p) * i < NO := by decide +kernel
theorem wv_le {V : VT} {p : Nat} (h : p < wv_n V) : p < NP := by
  have h : p < NO + min 6 (vNL V) := h
  have : NO + 6 = NP := rfl
  omega
theorem swp_lt {V : VT} {p : Nat} (h : p < wv_n V) : swp p < wv_n V := by
  obtain ⟨-, e3, e4, -⟩ := swp_tab p (wv_le h)
  by_cases c : p < NO
  · exact wv_lt (e3 c)
  · rw [e4 (by omega)]
    exact h
theorem fvl_mv {ad ad' : Nat → Nat} {G G' : G_} {p p' : Nat} (h1 : G'.1 p' = G.1 p) (h2 : G'.2 p' = G.2 p) : ∀ (l : List (Nat × Nat)) (j : Nat), (∀ d ∈ l, 2 ≤ d.1 → ad' (p' + d.2) = ad (p + d.2)) → fvl ad' G' p' l j = fvl ad G p l j
  | [], _, _ => rfl
  | (0, x) :: r, j, h => by
    have e := fvl_mv (ad := ad) (ad' := ad') h1 h2 r (j + 1) (fun d hd => h d (List.mem_cons_of_mem _ hd))
    show Value.int (G'.1 p' j) :: fvl ad' G' p' r (j + 1) = Value.int (G.1 p j) :: fvl ad G p r (j + 1)
    rw [e, h1]
  | (1, x) :: r, j, h => by
    have e := fvl_mv (ad := ad) (ad' := ad') h1 h2 r (j + 1) (fun d hd => h d (List.mem_cons_of_mem _ hd))
    show Value.long (G'.2 p' j) :: fvl ad' G' p' r (j + 1) = Value.long (G.2 p j) :: fvl ad G p r (j + 1)
    rw [e, h2]
  | (x + 2, d) :: r, j, h => by
    have e := fvl_mv (ad := ad) (ad' := ad') h1 h2 r (j + 1) (fun d hd => h d (List.mem_cons_of_mem _ hd))
    have h0 := h (x + 2, d) List.mem_cons_self (Nat.le_add_left 2 x)
    show Value.ref (ad' (p' + d)) :: fvl ad' G' p' r (j + 1) = Value.ref (ad (p + d)) :: fvl ad G p r (j + 1)
    rw [e, show ad' (p' + d) = ad (p + d) from h0]
theorem arrV_congr {c0 : ClassId} {N : Nat} {f g : Nat → Value} (h : ∀ j, j < N → f j = g j) : arrV c0 N f = arrV c0 N g := by
  unfold arrV
  have e : (fun j : Fin N => f j.val) = fun j : Fin N => g j.val := funext fun j => h j.val j.isLt
  rw [e]
/-- an entry of one world, seen at another place of another one -/
theorem at_mv {V V' : VT} {G G' : G_} {H : Heap} {p p' : Nat} (hV1 : V'.1 = V.1) (hV2 : V'.2.1 = V.2.1) (hp : p < NP) (h1 : G'.1 p' = G.1 p) (h2 : G'.2 p' = G.2 p) (e1 : kd p' = kd p) (e2 : ln p' = ln p) (ha : V'.2.2.1 p' = V.2.2.1 p)
    (hf : kd p < 9 → ∀ d ∈ fl (kd p), 2 ≤ d.1 → V'.2.2.1 (p' + d.2) = V.2.2.1 (p + d.2)) (hr : 12 ≤ kd p → kd p < 17 → ∀ i, i < ln p → V'.2.2.1 (rbp p' + rs (kd p) * i) = V.2.2.1 (rbp p + rs (kd p) * i))
    (h : va_at V.1 vwCl (V.2.2.1 p, en V G p) H) : va_at V'.1 vwCl (V'.2.2.1 p', en V' G' p') H := by
  obtain ⟨-, -, -, c0⟩ := swp_tab p hp
  rw [hV1, ha]
  by_cases c1 : kd p < 9
  · rw [en_obj (c := kd p) e1 c1, fvl_mv h1 h2 _ _ (hf c1)]
    rw [en_obj (c := kd p) rfl c1] at h
    exact h
  · by_cases c2 : kd p < 12
    · rw [en_arr (c := kd p) e1 (by omega) c2, hV2, e2, h1]
      rw [en_arr (c := kd p) rfl (by omega) c2] at h
      exact h
    · by_cases c3 : kd p = 17
      · rw [en_la (e1.trans c3), hV2, e2, h1]
        rw [en_la c3] at h
        exact h
      · rw [en_ra (c := kd p) e1 (by omega) (by omega), hV2, e2]
        rw [en_ra (c := kd p) rfl (by omega) (by omega)] at h
        have h3 : H[V.2.2.1 p]? = some (vp_cell (V.2.1 (kd p)) (ln p, .inr (.inr (.inr (.inr (fun i => some (V.2.2.1 (rbp p + rs (kd p) * i)))))))) := h
        show H[V.2.2.1 p]? = some (vp_cell (V.2.1 (kd p)) (ln p, .inr (.inr (.inr (.inr (fun i => some (V'.2.2.1 (rbp p' + rs (kd p) * i))))))))
        rw [h3, vp_cell_q, vp_cell_q]
        congr 1
        refine arrV_congr (fun j hj => ?_)
        rw [hr (by omega) (by omega) j hj]
theorem at_sw {V : VT} {G : G_} {H : Heap} {p : Nat} (hp : p < wv_n V) (h : va_at V.1 vwCl (V.2.2.1 (swp p), en V (swG G) (swp p)) H) : va_at V.1 vwCl ((swV V).2.2.1 p, en (swV V) G p) H := by
  have hN := wv_le hp
  have hN' := wv_le (swp_lt hp)
  obtain ⟨⟨e1, e2⟩, e3, e4, -⟩ := swp_tab p hN
  refine at_mv (V := V) (V' := swV V) (G := swG G) (G' := G) (p := swp p) (p' := p) rfl rfl hN' (by show G.1 p = G.1 (swp (swp p)); rw [swp_swp]) (by show G.2 p = G.2 (swp (swp p)); rw [swp_swp]) e1.symm e2.symm rfl (fun c d hd h2 => ?_) (fun c c' i hi => ?_) h
  · rw [e1] at c hd
    show V.2.2.1 (swp (p + d.2)) = V.2.2.1 (swp p + d.2)
    rw [(swp_fl p (kd_lt rfl (by omega)) c d hd h2).1]
  · rw [e1] at c c' ⊢
    rw [e2] at hi
    show V.2.2.1 (swp (rbp p + rs (kd p) * i)) = V.2.2.1 (rbp (swp p) + rs (kd p) * i)
    rw [(swp_ra p (kd_lt rfl (by omega)) c i hi).1]
theorem P_sw {V : VT} {G : G_} {H : Heap} (h : va_P V.1 vwCl (wl V (swG G)) H) : va_P V.1 vwCl (wl (swV V) G) H := by
  intro k q hq
  by_cases hk : k < wv_n V
  · rw [wl_get (swV V) G hk] at hq
    cases hq
    exact at_sw hk (h (swp k) _ (wl_get V (swG G) (swp_lt hk)))
  · rw [List.getElem?_eq_none (by rw [wl_len]; exact Nat.le_of_not_lt hk)] at hq
    cases hq
theorem P_sw2 {V : VT} {G : G_} {H : Heap} (h : va_P V.1 vwCl (wl (swV V) G) H) : va_P V.1 vwCl (wl V (swG G)) H := by
  have := P_sw (V := swV V) (G := swG G) (H := H) (by rw [swG_swG]; exact h)
  rw [swV_swV] at this
  exact this
theorem VD_sw {V : VT} (h : VD V) : VD (swV V) := by
  intro G
  have key : ∀ (k : Nat) (q : Nat × va_E), (wl (swV V) G)[k]? = some q → k < wv_n V ∧ q.1 = V.2.2.1 (swp k) := by
    intro k q hq
    by_cases hk : k < wv_n V
    · rw [wl_get (swV V) G hk] at hq
      cases hq
      exact ⟨hk, rfl⟩
    · rw [List.getElem?_eq_none (by rw [wl_len]; exact Nat.le_of_not_lt hk)] at hq
      cases hq
  refine ⟨fun i j p q hi hj e => ?_, fun k q hk => ?_⟩
  · obtain ⟨i1, i2⟩ := key i p hi
    obtain ⟨j1, j2⟩ := key j q hj
    have := (h G).1 (swp i) (swp j) _ _ (wl_get V G (swp_lt i1)) (wl_get V G (swp_lt j1)) (by rw [i2, j2] at e; exact e)
    rw [← swp_swp i, ← swp_swp j, this]
  · obtain ⟨k1, k2⟩ := key k q hk
    rw [k2]
    exact (h G).2 (swp k) _ (wl_get V G (swp_lt k1))
theorem VW_sw {V : VT} {G : G_} {U : State} (h : VW V (swG G) U) : VW (swV V) G U := ⟨h.1, VD_sw h.2.1, h.2.2.1, P_sw h.2.2.2⟩
/-- a method's contract at the second object -/
theorem mc_sw {l : Launch} {V : VT} {y : MethodName} {cc : ByteArray} {maxL : Nat} {ret : Option FieldType} {fr lo : Nat} {av : List Value} {G : G_} {o : Option Value} {G' : G_} (h : MC l (swV V) y cc maxL ret fr lo av (swG G) o G') : MC l V y cc maxL ret fr lo av G o (swG G') := by
  intro p e ha hc hk s m args below hf happ hP hK
  obtain ⟨n, o', h1, h2, h3, h4⟩ := h p e ha hc hk s m args below hf happ ⟨hP.1, VW_sw (by rw [swG_swG]; exact hP.2)⟩ hK
  exact ⟨n, o', h1, h2, h3, ⟨⟨h4.1.1.1, P_sw2 h4.1.1.2⟩, h4.1.2⟩, h4.2⟩
theorem mc_swp {l : Launch} {V : VT} {y : MethodName} {cc : ByteArray} {maxL : Nat} {ret : Option FieldType} {fr lo : Nat} {av : List Value} {G : G_} {o : Option Value} (h : MC l (swV V) y cc maxL ret fr lo av (swG G) o (swG G)) : MC l V y cc maxL ret fr lo av G o G := by
  have := mc_sw h
  rw [swG_swG] at this
  exact this
/-! a row of the law's own is made -/
def setN (V : VT) (a : Nat) : VT := (V.1, V.2.1, (fun q => if q = wv_n V then a else V.2.2.1 q), V.2.2.2.1, V.2.2.2.2.1, V.2.2.2.2.2.1, vNL V + 1, V.2.2.2.2.2.2.2)
def z0 (p : Nat) (G : G_) : G_ := (fun q j => if q = p then 0 else G.1 q j, G.2)
theorem setN_ne {V : VT} {a q : Nat} (h : q ≠ wv_n V) : (setN V a).2.2.1 q = V.2.2.1 q := if_neg h
theorem setN_eq {V : VT} {a : Nat} : (setN V a).2.2.1 (wv_n V) = a := if_pos rfl
theorem wv_setN {V : VT} {a : Nat} (h6 : vNL V < 6) : wv_n (setN V a) = wv_n V + 1 := by
  show NO + min 6 (vNL V + 1) = NO + min 6 (vNL V) + 1
  omega
theorem wv_no {V : VT} : NO ≤ wv_n V := Nat.le_add_right _ _
theorem at_setN {V : VT} {G : G_} {H : Heap} {a k : Nat} (hk : k < wv_n V) : va_at V.1 vwCl ((setN V a).2.2.1 k, en (setN V a) (z0 (wv_n V) G) k) H ↔ va_at V.1 vwCl (V.2.2.1 k, en V G k) H := by
  have hN := wv_le hk
  have hno := wv_no (V := V)
  have e1 : (z0 (wv_n V) G).1 k = G.1 k := funext fun j => if_neg (by omega)
  have f1 : kd k < 9 → ∀ d ∈ fl (kd k), 2 ≤ d.1 → (setN V a).2.2.1 (k + d.2) = V.2.2.1 (k + d.2) := fun c d hd h2 => setN_ne (by have := (swp_fl k (kd_lt rfl (by omega)) c d hd h2).2; omega)
  have f2 : 12 ≤ kd k → kd k < 17 → ∀ i, i < ln k → (setN V a).2.2.1 (rbp k + rs (kd k) * i) = V.2.2.1 (rbp k + rs (kd k) * i) := fun c c' i hi => setN_ne (by have := (swp_ra k (kd_lt rfl c') c i hi).2; omega)
  constructor
  · exact fun h => at_mv (V := setN V a) (V' := V) (G := z0 (wv_n V) G) (G' := G) rfl rfl hN e1.symm rfl rfl rfl (setN_ne (by omega)).symm (fun c d hd h2 => (f1 c d hd h2).symm) (fun c c' i hi => (f2 c c' i hi).symm) h
  · exact fun h => at_mv (V := V) (V' := setN V a) (G := G) (G' := z0 (wv_n V) G) rfl rfl hN e1 rfl rfl rfl (setN_ne (by omega)) f1 f2 h
theorem P_drop {V : VT} {G : G_} {H : Heap} {a : Nat} (h6 : vNL V < 6) (h : va_P V.1 vwCl (wl (setN V a) G) H) : va_P V.1 vwCl (wl V G) H := by
  intro k q hq
  by_cases hk : k < wv_n V
  · rw [wl_get V G hk] at hq
    cases hq
    have h1 := h k _ (wl_get (setN V a) G (by rw [wv_setN h6]; omega))
    have hN := wv_le hk
    have hno := wv_no (V := V)
    exact at_mv (V := setN V a) (V' := V) (G := G) (G' := G) rfl rfl hN rfl rfl rfl rfl (setN_ne (by omega)).symm (fun c d hd h2 => (setN_ne (by have := (swp_fl k (kd_lt rfl (by omega)) c d hd h2).2; omega)).symm) (fun c c' i hi => (setN_ne (by have := (swp_ra k (kd_lt rfl c') c i hi).2; omega)).symm) h1
  · rw [List.getElem?_eq_none (by rw [wl_len]; exact Nat.le_of_not_lt hk)] at hq
    cases hq
theorem VD_setN {V : VT} {a : Nat} (h6 : vNL V < 6) (h : VD V) (hA : V.2.2.2.1 a) (hd : ∀ q, q < wv_n V → V.2.2.1 q ≠ a) : VD (setN V a) := by
  intro G
  have key : ∀ (k : Nat) (q : Nat × va_E), (wl (setN V a) G)[k]? = some q → (k < wv_n V ∧ q.1 = V.2.2.1 k) ∨ (k = wv_n V ∧ q.1 = a) := by
    intro k q hq
    by_cases hk : k < wv_n (setN V a)
    · rw [wl_get (setN V a) G hk] at hq
      cases hq
      rw [wv_setN h6] at hk
      by_cases e : k = wv_n V
      · subst e
        exact Or.inr ⟨rfl, setN_eq⟩
      · exact Or.inl ⟨by omega, setN_ne e⟩
    · rw [List.getElem?_eq_none (by rw [wl_len]; exact Nat.le_of_not_lt hk)] at hq
      cases hq
  refine ⟨fun i j p q hi hj e => ?_, fun k q hk => ?_⟩
  · rcases key i p hi with ⟨i1, i2⟩ | ⟨i1, i2⟩ <;> rcases key j q hj with ⟨j1, j2⟩ | ⟨j1, j2⟩
    · exact (h G).1 i j _ _ (wl_get V G i1) (wl_get V G j1) (by rw [i2, j2] at e; exact e)
    · exact absurd (by rw [i2, j2] at e; exact e) (hd i i1)
    · exact absurd (by rw [i2, j2] at e; exact e.symm) (hd j j1)
    · rw [i1, j1]
  · rcases key k q hk with ⟨k1, k2⟩ | ⟨k1, k2⟩
    · rw [k2]
      exact (h G).2 k _ (wl_get V G k1)
    · rw [k2]
      exact hA
theorem x_newarr {p : Program} {l : Launch} {e : Env} {R : Room} {s : State} {m : MethodId} {args : Array Value} {below : List Frame} {meth : Method} {c : Code} {nL : Nat} {V : VT} {cells slots : Nat} {Q : State → Prop}
    {cc : ByteArray} {own : String} {Ts : List Cond} {ret : Option FieldType} {fr lo nL0 pc : Nat} (Lf : (Nat → Nat) → List (Nat × Value)) {G : G_} {a : Int32} {N' : Nat} (hc : Ok (p, l, e, R, s, m, args, below, meth, c, nL, V, cells, slots, Q) cc own Ts ret fr lo nL0) (hA : ∀ q, s.heap.size ≤ q → V.2.2.2.1 q) (h6 : vNL V < 6) (hln : ln (wv_n V) = N') (ha : ¬ a < 0) (hN : a.toNatClampNeg = N') (hby : N' * componentBytes .int ≤ 536870912) (hw : Cond.arrayClass .int ∈ TB) (hcs : cells + 1 ≤ R.cells) (hsl : slots + N' ≤ R.slots)
    (hL : ∀ ad ad' : Nat → Nat, (∀ q, q < wv_n V → ad' q = ad q) → Lf ad' = Lf ad) (hd : decode cc pc = .ok (.newarray .int, 2))
    (k : ∀ x, Ok (p, l, e, R, s, m, args, below, meth, c, nL, setN V x, cells + 1, slots + N', Q) cc own Ts ret fr lo nL0 → X (p, l, e, R, s, m, args, below, meth, c, nL, setN V x, cells + 1, slots + N', Q) (pc + 2) (Lf (setN V x).2.2.1) [.ref ((setN V x).2.2.1 (wv_n V))] (z0 (wv_n V) G)) : X (p, l, e, R, s, m, args, below, meth, c, nL, V, cells, slots, Q) pc (Lf V.2.2.1) [.int a] G := by
  obtain ⟨hx, hb, hml, hown, hts, ⟨hK, hD, hH⟩, hlk, hr, hR, hnL, w0, hw0⟩ := id hc
  intro H locs ls hP hS hl
  have hRA : s.vm.findClass ("[" ++ (FieldType.int).toString) = some (V.2.1 10) := (hK.1.2 1 (V.2.1 10, .int) rfl).2
  refine va_newaK (atype := .int) hx hb (TB_use hts hw0 hw) rfl hd rfl ha hN hby hcs hsl (h := H.size) rfl fun H1 cA e1 z1 o1 hAr hNm => ?_
  have hcA : cA = V.2.1 10 := Option.some.inj (hNm.symm.trans hRA)
  subst hcA
  have hlt : ∀ q, q < wv_n V → V.2.2.1 q < H.size := fun q hq => (hP q _ (wl_get V G hq)).lt
  have hkk := k H.size ⟨hx, hb, hml, hown, hts, ⟨hK, VD_setN h6 hD (hA _ hS.1) (fun q hq => Nat.ne_of_lt (hlt q hq)), hH⟩, hlk, hr, ⟨hR.1, hR.2.1, hcs, hsl⟩, hnL, w0, hw0⟩
  rw [hL V.2.2.1 (setN V H.size).2.2.1 (fun q hq => setN_ne (by omega)), setN_eq] at hkk
  refine hkk H1 locs ls ?_ ⟨Nat.le_trans hS.1 (by rw [z1]; omega), fun x h1 h2 => (o1 x (Nat.lt_of_lt_of_le h1 hS.1)).trans (hS.2.1 x h1 h2), hS.2.2⟩ hl
  intro k q hq
  by_cases hk : k < wv_n (setN V H.size)
  · rw [wl_get _ _ hk] at hq
    cases hq
    rw [wv_setN h6] at hk
    by_cases e : k = wv_n V
    · subst e
      have hkd : kd (wv_n V) = 17 := kd_hi _ (wv_le (V := setN V H.size) (by rw [wv_setN h6]; omega)) wv_no
      rw [en_la hkd, setN_eq]
      show H1[H.size]? = some (vp_cell _ _)
      rw [vp_cell_i, e1, hln]
      congr 2
      funext j
      show Value.int 0 = .int (if wv_n V = wv_n V then 0 else G.1 (wv_n V) j)
      rw [if_pos rfl]
    · have hk2 : k < wv_n V := by omega
      refine (at_setN hk2).mpr ?_
      exact va_at.kept (hP k _ (wl_get V G hk2)) (o1 _ (hlt k hk2))
  · rw [List.getElem?_eq_none (by rw [wl_len]; exact Nat.le_of_not_lt hk)] at hq
    cases hq
/-! a method that makes cells -/
def MCn (l : Launch) (V : VT) (y : MethodName) (cc : ByteArray) (maxL : Nat) (ret : Option FieldType) (fr lo mc ms : Nat) (av : List Value) (G : G_) (o : Option Value) (G' : G_) : Prop :=
  Met l y (Cond.code y cc maxL ret :: TB) ({ frames := fr, cells := mc, slots := ms, locals := lo }) (va_Pc av (VW V G)) (QO V o G') mc ms V.2.2.2.1
theorem mcn_of {l : Launch} {V : VT} {y : MethodName} {cc : ByteArray} {maxL : Nat} {ret : Option FieldType} {fr lo mc ms : Nat} {av : List Value} {G : G_} {o : Option Value} {G' : G_} (hy : plainName y.cls = true) (hn : (lg_sl av).length ≤ maxL) (hA : ∀ q, V.2.2.1 0 ≤ q → V.2.2.2.1 q)
    (body : ∀ (p : Program) (e : Env) (s : State) (m : MethodId) (below : List Frame) (meth : Method) (c : Code), (∀ q, s.heap.size ≤ q → V.2.2.2.1 q) → Ok (p, l, e, ({ frames := fr, cells := mc, slots := ms, locals := lo } : Room), s, m, av.toArray, below, meth, c, maxL, V, 0, 0, MQ below (QO V o G') av.toArray s mc ms V.2.2.2.1) cc y.cls (Cond.code y cc maxL ret :: TB) ret fr lo maxL → X (p, l, e, ({ frames := fr, cells := mc, slots := ms, locals := lo } : Room), s, m, av.toArray, below, meth, c, maxL, V, 0, 0, MQ below (QO V o G') av.toArray s mc ms V.2.2.2.1) 0 (lv_args 0 av) [] G) : MCn l V y cc maxL ret fr lo mc ms av G o G' := by
  refine Met.ofW (cc := cc) (maxL := maxL) (ret := ret) hy rfl ?_
  intro p e s m args below meth c s₁ B hml hv
  obtain ⟨rfl, hK, hD, hH, hP⟩ := hv
  have h0 : V.2.2.1 0 < s.heap.size := (hP 0 _ (wl_get V G (wv_lt (by decide)))).lt
  have hk := body p e s m below meth c (fun q hq => hA q (by omega)) ⟨B.exec, B.bytes, hml, findClass_of_methodNamed B.named, atoms_spec (ws := Cond.code y cc maxL ret :: TB) B.pre, ⟨hK, hD, hH⟩, B.notSynchronized, B.returns, ⟨rfl, rfl, Nat.zero_le _, Nat.zero_le _⟩, rfl, _, rfl⟩
  rw [lg_entry_eq]
  exact hk s.heap [] _ hP va_S.rf (lv_entry av hn)
section XCn
variable {p : Program} {l : Launch} {e : Env} {R : Room} {s : State} {m : MethodId} {args : Array Value} {below : List Frame} {meth : Method} {c : Code} {H : Heap} {locs : List Loc} {V : VT} {o1 : Option Value} {G G1 : G_} {nL pc cells slots mc ms : Nat} {Q : State → Prop} {ls : Array Slot} {L : List (Nat × Value)} {rest st0 : List Value} {a : Array Value}
theorem x_backn (hr : va_Run p l e R s m args below meth c H locs cells slots mc ms (F0 m pc ls st0) rest (QO V o1 G1 a) V.2.2.2.1) (hS : va_S V.2.2.2.1 s.heap H locs) (hl : lv_has ls nL L) (k : X (p, l, e, R, s, m, args, below, meth, c, nL, V, cells + mc, slots + ms, Q) (pc + 3) L (o1.toList ++ rest) G1) : W p l e R s m args below meth c H locs cells slots Q (F0 m pc ls st0) := by
  intro T hT X0
  obtain ⟨v, st₀, t, T', L1, h0, X', hL, e1, e2, ⟨⟨hv, hp⟩, hz, hk⟩, st⟩ := hr T hT X0
  cases hv
  rw [h0] at hz hk
  obtain ⟨t2, a1, b1⟩ := k T'.heap (locs ++ L1) ls (by rw [e1]; exact hp) ⟨Nat.le_trans hS.1 (by rw [e1]; exact hz), fun q h1 h2 => by rw [e1, hk q (Nat.lt_of_lt_of_le h1 hS.1) h2]; exact hS.2.1 q h1 h2, fun q hq => by
      rcases List.mem_append.mp hq with h | h
      · exact hS.2.2 q h
      · exact hL q h⟩ hl T' rfl X'
  exact ⟨t2, st t2 a1, b1⟩
end XCn
theorem x_callSn {p : Program} {l : Launch} {e : Env} {R : Room} {s : State} {m : MethodId} {args : Array Value} {below : List Frame} {meth : Method} {c : Code} {nL : Nat} {V : VT} {cells slots : Nat} {Q : State → Prop} {cc : ByteArray} {own : String} {Ts : List Cond} {ret : Option FieldType} {fr lo nL0 pc : Nat} {L : List (Nat × Value)} {st : List Value} {G : G_} {y : MethodName} {bytes : ByteArray} {maxL n index frc loc mc ms : Nat} {rt : Option FieldType} {As : List Value} {G1 : G_} {v : Value} (hc : Ok (p, l, e, R, s, m, args, below, meth, c, nL, V, cells, slots, Q) cc own Ts ret fr lo nL0) (hM : MCn l V y bytes maxL rt frc loc mc ms As G (some v) G1) (mw : MWS y bytes maxL rt n) (hlink : Cond.methodLink own index y ∈ TB) (hn : As.length = n) (hw : (st.map fun v => v.category).sum ≤ 8) (hroom : frc + 1 ≤ fr ∧ 8 + (maxL + 11) + loc ≤ lo) (hcs : cells + mc ≤ R.cells) (hsl : slots + ms ≤ R.slots) (hd : decode cc pc = .ok (.invokestatic index, 3)) {st0 : List Value} (hst : st0 = As.reverse ++ st) (k : X (p, l, e, R, s, m, args, below, meth, c, nL, V, cells + mc, slots + ms, Q) (pc + 3) L (v :: st) G1) : X (p, l, e, R, s, m, args, below, meth, c, nL, V, cells, slots, Q) pc L st0 G := by
  obtain ⟨hx, hb, hml, hown, hts, ⟨hK, hD, hH⟩, hlk, hr, hR, hnL, w0, hw0⟩ := hc
  obtain ⟨hd1, hcode, hini, hstt⟩ := mw
  intro H locs ls hP hS hl
  subst hw0 hnL
  refine x_backn (va_runS (As := As) (rest := st) ⟨hx, hb, hml, hown, hts⟩ hM (va_cwS n hts (TB_in (fun w hw1 => ?_)) rfl rfl rfl hd1 (by rw [hR.1, hR.2.1]; exact hroom)) (x_pre hK hD hH hS hP) rfl hn hl.1 hst (lv_room hw) hd ⟨hcs, hsl⟩) hS hl k
  rcases List.mem_append.mp hw1 with h | h
  · simp only [List.mem_cons, List.not_mem_nil, or_false] at h
    rcases h with rfl | rfl | rfl
    · exact hlink
    · exact hstt
    · exact hini
  · rcases List.mem_cons.mp h with rfl | h
    · exact hcode
    · exact h
/-- the end of a method that has made a row of its own -/
theorem x_zretD {p : Program} {l : Launch} {e : Env} {R : Room} {s : State} {m : MethodId} {args : Array Value} {below : List Frame} {meth : Method} {c : Code} {nL : Nat} {V : VT} {cells slots : Nat} {Q : State → Prop} {cc : ByteArray} {own : String} {Ts : List Cond} {ret : Option FieldType} {fr lo nL0 pc a : Nat} {L : List (Nat × Value)} {G : G_} {v : Int32} (h6 : vNL V < 6) (hc : Ok (p, l, e, R, s, m, args, below, meth, c, nL, setN V a, cells, slots, Q) cc own Ts ret fr lo nL0) (hret : ret = some .boolean) (hz : isZ v = true) (ho : Q = MQ below (QO V (some (.int v)) G) args s cells slots V.2.2.2.1) (hd : decode cc pc = .ok (.ireturn, 1)) : X (p, l, e, R, s, m, args, below, meth, c, nL, setN V a, cells, slots, Q) pc L [.int v] G := by
  obtain ⟨hx, hb, hml, hown, hts, ⟨hK, hD, hH⟩, hlk, hr, hR, hnL, w0, hw0⟩ := hc
  subst ho hret
  exact fun H locs ls hP hS hl => W.zret hx hb hr (isZ_narrow hz).1 (fun t ht hW => ⟨⟨rfl, by rw [ht]; exact P_drop h6 hP⟩, va_S.F hS ht⟩) hS.2.2 hd hlk
