/-! ===== BEGIN printed: names, fields, word lists, decode rows ===== -/
def RX0 : String := "LayoutPress$1"
def TX0 : u_T := fun k => match k with
  | _ => ("", "", "", false)
def tyX0 : Nat → FieldType := fun k => match k with
  | _ => .int
abbrev wsX00 : List Cond := u_ws RX0 TX0 0
theorem nmX0 : ∀ a, a < 0 → ∀ b, b < 0 → a ≠ b → (TX0 a).2.1 ≠ (TX0 b).2.1 := by decide +kernel
theorem tyX0_ok : ∀ k, k < 0 → parseFieldDescriptor (TX0 k).2.2.1 = some (tyX0 k) := by decide +kernel
def RX1 : String := "LayoutPress$Hand"
def TX1 : u_T := fun k => match k with
  | 0 => ("LayoutPress$Hand", "terms", "LLayoutPress$Terms;", true)
  | 1 => ("LayoutPress$Hand", "sheet", "LLayoutPress$Sheet;", false)
  | 2 => ("LayoutPress$Hand", "plan", "I", false)
  | 3 => ("LayoutPress$Hand", "planned", "I", false)
  | 4 => ("LayoutPress$Hand", "laterWay", "I", false)
  | 5 => ("LayoutPress$Hand", "watched", "I", false)
  | _ => ("LayoutPress$Hand", "hasStopped", "Z", false)
def tyX1 : Nat → FieldType := fun k => match k with
  | 0 => .object "LayoutPress$Terms"
  | 1 => .object "LayoutPress$Sheet"
  | 2 => .int
  | 3 => .int
  | 4 => .int
  | 5 => .int
  | _ => .boolean
abbrev wsX10 : List Cond := u_ws RX1 TX1 7
theorem nmX1 : ∀ a, a < 7 → ∀ b, b < 7 → a ≠ b → (TX1 a).2.1 ≠ (TX1 b).2.1 := by decide +kernel
theorem tyX1_ok : ∀ k, k < 7 → parseFieldDescriptor (TX1 k).2.2.1 = some (tyX1 k) := by decide +kernel
abbrev cX1_init : ByteArray := prog_3_method_1_code
def yX1_init : MethodName := ⟨RX1, "<init>", "(LLayoutPress$Terms;)V"⟩
abbrev cX1_exchange : ByteArray := prog_3_method_2_code
def yX1_exchange : MethodName := ⟨RX1, "exchange", "(LLayoutPress$Sheet;)LLayoutPress$Sheet;"⟩
abbrev cX1_write : ByteArray := prog_3_method_3_code
def yX1_write : MethodName := ⟨RX1, "write", "(LLayoutPress$Node;II)V"⟩
abbrev cX1_layOut : ByteArray := prog_3_method_4_code
def yX1_layOut : MethodName := ⟨RX1, "layOut", "(LLayoutPress$Node;IIII)V"⟩
abbrev cX1_writeBestOfAll : ByteArray := prog_3_method_5_code
def yX1_writeBestOfAll : MethodName := ⟨RX1, "writeBestOfAll", "(LLayoutPress$Node;)Z"⟩
abbrev cX1_lastFirstWay : ByteArray := prog_3_method_6_code
def yX1_lastFirstWay : MethodName := ⟨RX1, "lastFirstWay", "()I"⟩
abbrev cX1_writeGreedily : ByteArray := prog_3_method_7_code
def yX1_writeGreedily : MethodName := ⟨RX1, "writeGreedily", "(LLayoutPress$Node;)Z"⟩
abbrev cX1_presentLineFits : ByteArray := prog_3_method_8_code
def yX1_presentLineFits : MethodName := ⟨RX1, "presentLineFits", "()Z"⟩
abbrev cX1_decide : ByteArray := prog_3_method_9_code
def yX1_decide : MethodName := ⟨RX1, "decide", "()I"⟩
abbrev cX1_endLine : ByteArray := prog_3_method_10_code
def yX1_endLine : MethodName := ⟨RX1, "endLine", "(I)V"⟩
abbrev cX1_put : ByteArray := prog_3_method_11_code
def yX1_put : MethodName := ⟨RX1, "put", "(LLayoutPress$Node;ZII)V"⟩
abbrev cX1_putLeaf : ByteArray := prog_3_method_12_code
def yX1_putLeaf : MethodName := ⟨RX1, "putLeaf", "(LLayoutPress$Node;ZI)V"⟩
def RX2 : String := "LayoutPress$Held"
def TX2 : u_T := fun k => match k with
  | 0 => ("LayoutPress$Held", "level", "I", false)
  | 1 => ("LayoutPress$Held", "places", "[I", true)
  | 2 => ("LayoutPress$Held", "ways", "[I", true)
  | 3 => ("LayoutPress$Held", "order", "[I", true)
  | 4 => ("LayoutPress$Held", "begins", "[I", true)
  | _ => ("LayoutPress$Held", "count", "I", false)
def tyX2 : Nat → FieldType := fun k => match k with
  | 0 => .int
  | 1 => .array .int
  | 2 => .array .int
  | 3 => .array .int
  | 4 => .array .int
  | _ => .int
abbrev wsX20 : List Cond := u_ws RX2 TX2 6
theorem nmX2 : ∀ a, a < 6 → ∀ b, b < 6 → a ≠ b → (TX2 a).2.1 ≠ (TX2 b).2.1 := by decide +kernel
theorem tyX2_ok : ∀ k, k < 6 → parseFieldDescriptor (TX2 k).2.2.1 = some (tyX2 k) := by decide +kernel
abbrev cX2_init : ByteArray := prog_4_method_1_code
def yX2_init : MethodName := ⟨RX2, "<init>", "()V"⟩
abbrev cX2_begin : ByteArray := prog_4_method_2_code
def yX2_begin : MethodName := ⟨RX2, "begin", "()V"⟩
abbrev cX2_enter : ByteArray := prog_4_method_3_code
def yX2_enter : MethodName := ⟨RX2, "enter", "()V"⟩
abbrev cX2_leave : ByteArray := prog_4_method_4_code
def yX2_leave : MethodName := ⟨RX2, "leave", "()V"⟩
abbrev cX2_allows : ByteArray := prog_4_method_5_code
def yX2_allows : MethodName := ⟨RX2, "allows", "(II)Z"⟩
abbrev cX2_allowsOutside : ByteArray := prog_4_method_6_code
def yX2_allowsOutside : MethodName := ⟨RX2, "allowsOutside", "(II)Z"⟩
abbrev cX2_isHeld : ByteArray := prog_4_method_7_code
def yX2_isHeld : MethodName := ⟨RX2, "isHeld", "(I)Z"⟩
abbrev cX2_hold : ByteArray := prog_4_method_8_code
def yX2_hold : MethodName := ⟨RX2, "hold", "(I)Z"⟩
abbrev cX2_goOn : ByteArray := prog_4_method_9_code
def yX2_goOn : MethodName := ⟨RX2, "goOn", "()Z"⟩
def RX3 : String := "LayoutPress$Kind"
def TX3 : u_T := fun k => match k with
  | _ => ("", "", "", false)
def tyX3 : Nat → FieldType := fun k => match k with
  | _ => .int
abbrev wsX30 : List Cond := u_ws RX3 TX3 0
theorem nmX3 : ∀ a, a < 0 → ∀ b, b < 0 → a ≠ b → (TX3 a).2.1 ≠ (TX3 b).2.1 := by decide +kernel
theorem tyX3_ok : ∀ k, k < 0 → parseFieldDescriptor (TX3 k).2.2.1 = some (tyX3 k) := by decide +kernel
abbrev cX3_endsLine : ByteArray := prog_5_method_4_code
def yX3_endsLine : MethodName := ⟨RX3, "endsLine", "()Z"⟩
def RX4 : String := "LayoutPress$Node"
def TX4 : u_T := fun k => match k with
  | 0 => ("LayoutPress$Node", "kind", "LLayoutPress$Kind;", true)
  | 1 => ("LayoutPress$Node", "value", "I", true)
  | 2 => ("LayoutPress$Node", "first", "LLayoutPress$Node;", true)
  | 3 => ("LayoutPress$Node", "second", "LLayoutPress$Node;", true)
  | 4 => ("LayoutPress$Node", "number", "I", false)
  | 5 => ("LayoutPress$Node", "leaves", "I", false)
  | 6 => ("LayoutPress$Node", "flatWidth", "I", false)
  | 7 => ("LayoutPress$Node", "barred", "Z", false)
  | 8 => ("LayoutPress$Node", "indents", "Z", false)
  | 9 => ("LayoutPress$Node", "mostWays", "I", false)
  | 10 => ("LayoutPress$Node", "mostFlatWays", "I", false)
  | 11 => ("LayoutPress$Node", "layoutCount", "I", false)
  | 12 => ("LayoutPress$Node", "flatLayoutCount", "I", false)
  | 13 => ("LayoutPress$Node", "within", "J", false)
  | _ => ("LayoutPress$Node", "traits", "I", false)
def tyX4 : Nat → FieldType := fun k => match k with
  | 0 => .object "LayoutPress$Kind"
  | 1 => .int
  | 2 => .object "LayoutPress$Node"
  | 3 => .object "LayoutPress$Node"
  | 4 => .int
  | 5 => .int
  | 6 => .int
  | 7 => .boolean
  | 8 => .boolean
  | 9 => .int
  | 10 => .int
  | 11 => .int
  | 12 => .int
  | 13 => .long
  | _ => .int
abbrev wsX40 : List Cond := u_ws RX4 TX4 15
theorem nmX4 : ∀ a, a < 15 → ∀ b, b < 15 → a ≠ b → (TX4 a).2.1 ≠ (TX4 b).2.1 := by decide +kernel
theorem tyX4_ok : ∀ k, k < 15 → parseFieldDescriptor (TX4 k).2.2.1 = some (tyX4 k) := by decide +kernel
abbrev cX4_init : ByteArray := prog_6_method_1_code
def yX4_init : MethodName := ⟨RX4, "<init>", "(LLayoutPress$Kind;II)V"⟩
abbrev cX4_init_ : ByteArray := prog_6_method_2_code
def yX4_init_ : MethodName := ⟨RX4, "<init>", "(LLayoutPress$Kind;ILLayoutPress$Node;LLayoutPress$Node;)V"⟩
abbrev cX4_traitsOfLeaf : ByteArray := prog_6_method_3_code
def yX4_traitsOfLeaf : MethodName := ⟨RX4, "traitsOfLeaf", "(LLayoutPress$Kind;I)I"⟩
abbrev cX4_measureOne : ByteArray := prog_6_method_4_code
def yX4_measureOne : MethodName := ⟨RX4, "measureOne", "(LLayoutPress$Node;)V"⟩
abbrev cX4_measureTwo : ByteArray := prog_6_method_5_code
def yX4_measureTwo : MethodName := ⟨RX4, "measureTwo", "(LLayoutPress$Node;LLayoutPress$Node;)V"⟩
abbrev cX4_atMostCounted : ByteArray := prog_6_method_6_code
def yX4_atMostCounted : MethodName := ⟨RX4, "atMostCounted", "(J)I"⟩
abbrev cX4_take : ByteArray := prog_6_method_7_code
def yX4_take : MethodName := ⟨RX4, "take", "(I)V"⟩
abbrev cX4_bit : ByteArray := prog_6_method_8_code
def yX4_bit : MethodName := ⟨RX4, "bit", "()J"⟩
abbrev cX4_sign : ByteArray := prog_6_method_9_code
def yX4_sign : MethodName := ⟨RX4, "sign", "()C"⟩
def RX5 : String := "LayoutPress$Pages"
def TX5 : u_T := fun k => match k with
  | 0 => ("LayoutPress$Pages", "areBroken", "Z", false)
  | 1 => ("LayoutPress$Pages", "pageOfLine", "[I", true)
  | 2 => ("LayoutPress$Pages", "cost", "[I", true)
  | 3 => ("LayoutPress$Pages", "count", "[I", true)
  | _ => ("LayoutPress$Pages", "firstHeight", "[I", true)
def tyX5 : Nat → FieldType := fun k => match k with
  | 0 => .boolean
  | 1 => .array .int
  | 2 => .array .int
  | 3 => .array .int
  | _ => .array .int
abbrev wsX50 : List Cond := u_ws RX5 TX5 5
theorem nmX5 : ∀ a, a < 5 → ∀ b, b < 5 → a ≠ b → (TX5 a).2.1 ≠ (TX5 b).2.1 := by decide +kernel
theorem tyX5_ok : ∀ k, k < 5 → parseFieldDescriptor (TX5 k).2.2.1 = some (tyX5 k) := by decide +kernel
abbrev cX5_init : ByteArray := prog_7_method_1_code
def yX5_init : MethodName := ⟨RX5, "<init>", "()V"⟩
abbrev cX5_forget : ByteArray := prog_7_method_2_code
def yX5_forget : MethodName := ⟨RX5, "forget", "()V"⟩
abbrev cX5_pageWith : ByteArray := prog_7_method_3_code
def yX5_pageWith : MethodName := ⟨RX5, "pageWith", "(I)I"⟩
abbrev cX5_breakSheet : ByteArray := prog_7_method_4_code
def yX5_breakSheet : MethodName := ⟨RX5, "breakSheet", "(LLayoutPress$Sheet;I)I"⟩
abbrev cX5_choosePage : ByteArray := prog_7_method_5_code
def yX5_choosePage : MethodName := ⟨RX5, "choosePage", "(LLayoutPress$Sheet;III)V"⟩
abbrev cX5_numberLines : ByteArray := prog_7_method_6_code
def yX5_numberLines : MethodName := ⟨RX5, "numberLines", "(I)V"⟩
def RX6 : String := "LayoutPress$Search"
def TX6 : u_T := fun k => match k with
  | 0 => ("LayoutPress$Search", "terms", "LLayoutPress$Terms;", true)
  | 1 => ("LayoutPress$Search", "states", "LLayoutPress$States;", true)
  | 2 => ("LayoutPress$Search", "held", "LLayoutPress$Held;", true)
  | 3 => ("LayoutPress$Search", "hasFound", "Z", false)
  | 4 => ("LayoutPress$Search", "bestWays", "I", false)
  | _ => ("LayoutPress$Search", "bestTold", "I", false)
def tyX6 : Nat → FieldType := fun k => match k with
  | 0 => .object "LayoutPress$Terms"
  | 1 => .object "LayoutPress$States"
  | 2 => .object "LayoutPress$Held"
  | 3 => .boolean
  | 4 => .int
  | _ => .int
abbrev wsX60 : List Cond := u_ws RX6 TX6 6
theorem nmX6 : ∀ a, a < 6 → ∀ b, b < 6 → a ≠ b → (TX6 a).2.1 ≠ (TX6 b).2.1 := by decide +kernel
theorem tyX6_ok : ∀ k, k < 6 → parseFieldDescriptor (TX6 k).2.2.1 = some (tyX6 k) := by decide +kernel
abbrev cX6_init : ByteArray := prog_8_method_1_code
def yX6_init : MethodName := ⟨RX6, "<init>", "(LLayoutPress$Terms;)V"⟩
abbrev cX6_findBest : ByteArray := prog_8_method_2_code
def yX6_findBest : MethodName := ⟨RX6, "findBest", "(LLayoutPress$Node;)Z"⟩
abbrev cX6_searchInParts : ByteArray := prog_8_method_3_code
def yX6_searchInParts : MethodName := ⟨RX6, "searchInParts", "(LLayoutPress$Node;)V"⟩
abbrev cX6_keepBest : ByteArray := prog_8_method_4_code
def yX6_keepBest : MethodName := ⟨RX6, "keepBest", "()V"⟩
abbrev cX6_advance : ByteArray := prog_8_method_5_code
def yX6_advance : MethodName := ⟨RX6, "advance", "(LLayoutPress$Node;ZIIII)V"⟩
abbrev cX6_advanceAlign : ByteArray := prog_8_method_6_code
def yX6_advanceAlign : MethodName := ⟨RX6, "advanceAlign", "(LLayoutPress$Node;ZIIII)V"⟩
abbrev cX6_passAlign : ByteArray := prog_8_method_7_code
def yX6_passAlign : MethodName := ⟨RX6, "passAlign", "(LLayoutPress$Node;IIII)V"⟩
abbrev cX6_hasRoomInside : ByteArray := prog_8_method_8_code
def yX6_hasRoomInside : MethodName := ⟨RX6, "hasRoomInside", "(I)Z"⟩
abbrev cX6_fork : ByteArray := prog_8_method_9_code
def yX6_fork : MethodName := ⟨RX6, "fork", "(LLayoutPress$Node;ZIIII)V"⟩
abbrev cX6_settle : ByteArray := prog_8_method_10_code
def yX6_settle : MethodName := ⟨RX6, "settle", "(II)V"⟩
abbrev cX6_pay : ByteArray := prog_8_method_11_code
def yX6_pay : MethodName := ⟨RX6, "pay", "(II)V"⟩
abbrev cX6_putLeaf : ByteArray := prog_8_method_12_code
def yX6_putLeaf : MethodName := ⟨RX6, "putLeaf", "(LLayoutPress$Node;ZII)V"⟩
abbrev cX6_putSigns : ByteArray := prog_8_method_13_code
def yX6_putSigns : MethodName := ⟨RX6, "putSigns", "(LLayoutPress$Node;I)V"⟩
abbrev cX6_putBlanks : ByteArray := prog_8_method_14_code
def yX6_putBlanks : MethodName := ⟨RX6, "putBlanks", "(II)V"⟩
abbrev cX6_putTab : ByteArray := prog_8_method_15_code
def yX6_putTab : MethodName := ⟨RX6, "putTab", "(II)V"⟩
abbrev cX6_endLines : ByteArray := prog_8_method_16_code
def yX6_endLines : MethodName := ⟨RX6, "endLines", "(II)V"⟩
def RX7 : String := "LayoutPress$Sheet"
def TX7 : u_T := fun k => match k with
  | 0 => ("LayoutPress$Sheet", "lineCount", "I", false)
  | 1 => ("LayoutPress$Sheet", "column", "I", false)
  | 2 => ("LayoutPress$Sheet", "hasRemark", "Z", false)
  | 3 => ("LayoutPress$Sheet", "isImpossible", "Z", false)
  | 4 => ("LayoutPress$Sheet", "prices", "J", false)
  | 5 => ("LayoutPress$Sheet", "ways", "I", false)
  | 6 => ("LayoutPress$Sheet", "told", "I", false)
  | 7 => ("LayoutPress$Sheet", "firsts", "[I", true)
  | 8 => ("LayoutPress$Sheet", "ends", "[I", true)
  | 9 => ("LayoutPress$Sheet", "cutCosts", "[I", true)
  | 10 => ("LayoutPress$Sheet", "starts", "[I", true)
  | 11 => ("LayoutPress$Sheet", "ownerCount", "I", false)
  | 12 => ("LayoutPress$Sheet", "owners", "[LLayoutPress$Node;", true)
  | 13 => ("LayoutPress$Sheet", "ownerLines", "[I", true)
  | _ => ("LayoutPress$Sheet", "ownerColumns", "[I", true)
def tyX7 : Nat → FieldType := fun k => match k with
  | 0 => .int
  | 1 => .int
  | 2 => .boolean
  | 3 => .boolean
  | 4 => .long
  | 5 => .int
  | 6 => .int
  | 7 => .array .int
  | 8 => .array .int
  | 9 => .array .int
  | 10 => .array .int
  | 11 => .int
  | 12 => .array (.object "LayoutPress$Node")
  | 13 => .array .int
  | _ => .array .int
abbrev wsX70 : List Cond := u_ws RX7 TX7 15
theorem nmX7 : ∀ a, a < 15 → ∀ b, b < 15 → a ≠ b → (TX7 a).2.1 ≠ (TX7 b).2.1 := by decide +kernel
theorem tyX7_ok : ∀ k, k < 15 → parseFieldDescriptor (TX7 k).2.2.1 = some (tyX7 k) := by decide +kernel
abbrev cX7_init : ByteArray := prog_9_method_1_code
def yX7_init : MethodName := ⟨RX7, "<init>", "()V"⟩
abbrev cX7_clear : ByteArray := prog_9_method_2_code
def yX7_clear : MethodName := ⟨RX7, "clear", "()V"⟩
abbrev cX7_beginLine : ByteArray := prog_9_method_3_code
def yX7_beginLine : MethodName := ⟨RX7, "beginLine", "(I)V"⟩
abbrev cX7_present : ByteArray := prog_9_method_4_code
def yX7_present : MethodName := ⟨RX7, "present", "()I"⟩
abbrev cX7_beginNode : ByteArray := prog_9_method_5_code
def yX7_beginNode : MethodName := ⟨RX7, "beginNode", "(LLayoutPress$Node;)V"⟩
abbrev cX7_putSigns : ByteArray := prog_9_method_6_code
def yX7_putSigns : MethodName := ⟨RX7, "putSigns", "(LLayoutPress$Node;)V"⟩
abbrev cX7_putBlanks : ByteArray := prog_9_method_7_code
def yX7_putBlanks : MethodName := ⟨RX7, "putBlanks", "(I)V"⟩
abbrev cX7_putTab : ByteArray := prog_9_method_8_code
def yX7_putTab : MethodName := ⟨RX7, "putTab", "(I)V"⟩
abbrev cX7_keepTogether : ByteArray := prog_9_method_9_code
def yX7_keepTogether : MethodName := ⟨RX7, "keepTogether", "(II)V"⟩
abbrev cX7_tell : ByteArray := prog_9_method_10_code
def yX7_tell : MethodName := ⟨RX7, "tell", "(I)V"⟩
abbrev cX7_firstOf : ByteArray := prog_9_method_11_code
def yX7_firstOf : MethodName := ⟨RX7, "firstOf", "(I)I"⟩
abbrev cX7_endOf : ByteArray := prog_9_method_12_code
def yX7_endOf : MethodName := ⟨RX7, "endOf", "(I)I"⟩
abbrev cX7_cutCostOf : ByteArray := prog_9_method_13_code
def yX7_cutCostOf : MethodName := ⟨RX7, "cutCostOf", "(I)I"⟩
abbrev cX7_startOf : ByteArray := prog_9_method_14_code
def yX7_startOf : MethodName := ⟨RX7, "startOf", "(LLayoutPress$Node;)I"⟩
abbrev cX7_ownerOf : ByteArray := prog_9_method_15_code
def yX7_ownerOf : MethodName := ⟨RX7, "ownerOf", "(II)LLayoutPress$Node;"⟩
def RX8 : String := "LayoutPress$States"
def TX8 : u_T := fun k => match k with
  | 0 => ("LayoutPress$States", "held", "LLayoutPress$Held;", true)
  | 1 => ("LayoutPress$States", "top", "I", false)
  | 2 => ("LayoutPress$States", "isFull", "Z", false)
  | 3 => ("LayoutPress$States", "limit", "J", false)
  | 4 => ("LayoutPress$States", "leastDropped", "J", false)
  | 5 => ("LayoutPress$States", "around", "[I", false)
  | 6 => ("LayoutPress$States", "column", "[I", false)
  | 7 => ("LayoutPress$States", "first", "[I", false)
  | 8 => ("LayoutPress$States", "hasRemark", "[I", false)
  | 9 => ("LayoutPress$States", "paid", "[J", false)
  | 10 => ("LayoutPress$States", "weight", "[J", false)
  | 11 => ("LayoutPress$States", "ways", "[I", false)
  | 12 => ("LayoutPress$States", "told", "[I", false)
  | 13 => ("LayoutPress$States", "floor", "[J", false)
  | 14 => ("LayoutPress$States", "link", "[I", false)
  | 15 => ("LayoutPress$States", "head", "[I", false)
  | 16 => ("LayoutPress$States", "slots", "[I", false)
  | _ => ("LayoutPress$States", "slotCount", "I", false)
def tyX8 : Nat → FieldType := fun k => match k with
  | 0 => .object "LayoutPress$Held"
  | 1 => .int
  | 2 => .boolean
  | 3 => .long
  | 4 => .long
  | 5 => .array .int
  | 6 => .array .int
  | 7 => .array .int
  | 8 => .array .int
  | 9 => .array .long
  | 10 => .array .long
  | 11 => .array .int
  | 12 => .array .int
  | 13 => .array .long
  | 14 => .array .int
  | 15 => .array .int
  | 16 => .array .int
  | _ => .int
abbrev wsX80 : List Cond := u_ws RX8 TX8 18
theorem nmX8 : ∀ a, a < 18 → ∀ b, b < 18 → a ≠ b → (TX8 a).2.1 ≠ (TX8 b).2.1 := by decide +kernel
theorem tyX8_ok : ∀ k, k < 18 → parseFieldDescriptor (TX8 k).2.2.1 = some (tyX8 k) := by decide +kernel
abbrev cX8_init : ByteArray := prog_10_method_1_code
def yX8_init : MethodName := ⟨RX8, "<init>", "(LLayoutPress$Held;)V"⟩
abbrev cX8_begin : ByteArray := prog_10_method_2_code
def yX8_begin : MethodName := ⟨RX8, "begin", "()V"⟩
abbrev cX8_hasRoom : ByteArray := prog_10_method_3_code
def yX8_hasRoom : MethodName := ⟨RX8, "hasRoom", "(I)Z"⟩
abbrev cX8_makeRows : ByteArray := prog_10_method_4_code
def yX8_makeRows : MethodName := ⟨RX8, "makeRows", "(I)V"⟩
abbrev cX8_copyState : ByteArray := prog_10_method_5_code
def yX8_copyState : MethodName := ⟨RX8, "copyState", "(II)V"⟩
abbrev cX8_dropRemarked : ByteArray := prog_10_method_6_code
def yX8_dropRemarked : MethodName := ⟨RX8, "dropRemarked", "(I)V"⟩
abbrev cX8_dropHeavy : ByteArray := prog_10_method_7_code
def yX8_dropHeavy : MethodName := ⟨RX8, "dropHeavy", "(I)V"⟩
abbrev cX8_isHeavy : ByteArray := prog_10_method_8_code
def yX8_isHeavy : MethodName := ⟨RX8, "isHeavy", "(I)Z"⟩
abbrev cX8_fullWeight : ByteArray := prog_10_method_9_code
def yX8_fullWeight : MethodName := ⟨RX8, "fullWeight", "(I)J"⟩
abbrev cX8_indentationOf : ByteArray := prog_10_method_10_code
def yX8_indentationOf : MethodName := ⟨RX8, "indentationOf", "(I)I"⟩
abbrev cX8_branch : ByteArray := prog_10_method_11_code
def yX8_branch : MethodName := ⟨RX8, "branch", "(III)V"⟩
abbrev cX8_slide : ByteArray := prog_10_method_12_code
def yX8_slide : MethodName := ⟨RX8, "slide", "(II)V"⟩
abbrev cX8_addCost : ByteArray := prog_10_method_13_code
def yX8_addCost : MethodName := ⟨RX8, "addCost", "(IJ)V"⟩
abbrev cX8_addLineEnd : ByteArray := prog_10_method_14_code
def yX8_addLineEnd : MethodName := ⟨RX8, "addLineEnd", "(I)V"⟩
abbrev cX8_beginLine : ByteArray := prog_10_method_15_code
def yX8_beginLine : MethodName := ⟨RX8, "beginLine", "(II)V"⟩
abbrev cX8_forgetLines : ByteArray := prog_10_method_16_code
def yX8_forgetLines : MethodName := ⟨RX8, "forgetLines", "(I)V"⟩
abbrev cX8_merge : ByteArray := prog_10_method_17_code
def yX8_merge : MethodName := ⟨RX8, "merge", "(IZ)V"⟩
abbrev cX8_keepTop : ByteArray := prog_10_method_18_code
def yX8_keepTop : MethodName := ⟨RX8, "keepTop", "(Z)V"⟩
abbrev cX8_goesOnNoWorse : ByteArray := prog_10_method_19_code
def yX8_goesOnNoWorse : MethodName := ⟨RX8, "goesOnNoWorse", "(IIZ)Z"⟩
abbrev cX8_clearSlots : ByteArray := prog_10_method_20_code
def yX8_clearSlots : MethodName := ⟨RX8, "clearSlots", "(I)V"⟩
abbrev cX8_slotOf : ByteArray := prog_10_method_21_code
def yX8_slotOf : MethodName := ⟨RX8, "slotOf", "(I)I"⟩
abbrev cX8_mix : ByteArray := prog_10_method_22_code
def yX8_mix : MethodName := ⟨RX8, "mix", "(II)I"⟩
abbrev cX8_waitAtAlign : ByteArray := prog_10_method_23_code
def yX8_waitAtAlign : MethodName := ⟨RX8, "waitAtAlign", "(I)V"⟩
abbrev cX8_isInSameLine : ByteArray := prog_10_method_24_code
def yX8_isInSameLine : MethodName := ⟨RX8, "isInSameLine", "(II)Z"⟩
abbrev cX8_enterAlign : ByteArray := prog_10_method_25_code
def yX8_enterAlign : MethodName := ⟨RX8, "enterAlign", "(III)I"⟩
abbrev cX8_leaveAlign : ByteArray := prog_10_method_26_code
def yX8_leaveAlign : MethodName := ⟨RX8, "leaveAlign", "(IIIIIZ)V"⟩
abbrev cX8_join : ByteArray := prog_10_method_27_code
def yX8_join : MethodName := ⟨RX8, "join", "(IIZ)V"⟩
abbrev cX8_waitingFor : ByteArray := prog_10_method_28_code
def yX8_waitingFor : MethodName := ⟨RX8, "waitingFor", "(I)I"⟩
abbrev cX8_placeToHold : ByteArray := prog_10_method_29_code
def yX8_placeToHold : MethodName := ⟨RX8, "placeToHold", "(II)I"⟩
abbrev cX8_countLess : ByteArray := prog_10_method_30_code
def yX8_countLess : MethodName := ⟨RX8, "countLess", "(III)I"⟩
abbrev cX8_giveUp : ByteArray := prog_10_method_31_code
def yX8_giveUp : MethodName := ⟨RX8, "giveUp", "(I)V"⟩
def RX9 : String := "LayoutPress$Terms"
def TX9 : u_T := fun k => match k with
  | 0 => ("LayoutPress$Terms", "width", "I", false)
  | 1 => ("LayoutPress$Terms", "ribbon", "I", false)
  | 2 => ("LayoutPress$Terms", "linePrice", "I", false)
  | _ => ("LayoutPress$Terms", "widest", "[I", true)
def tyX9 : Nat → FieldType := fun k => match k with
  | 0 => .int
  | 1 => .int
  | 2 => .int
  | _ => .array .int
abbrev wsX90 : List Cond := u_ws RX9 TX9 4
theorem nmX9 : ∀ a, a < 4 → ∀ b, b < 4 → a ≠ b → (TX9 a).2.1 ≠ (TX9 b).2.1 := by decide +kernel
theorem tyX9_ok : ∀ k, k < 4 → parseFieldDescriptor (TX9 k).2.2.1 = some (tyX9 k) := by decide +kernel
abbrev cX9_init : ByteArray := prog_11_method_1_code
def yX9_init : MethodName := ⟨RX9, "<init>", "()V"⟩
abbrev cX9_set : ByteArray := prog_11_method_2_code
def yX9_set : MethodName := ⟨RX9, "set", "(III)V"⟩
abbrev cX9_measureCells : ByteArray := prog_11_method_3_code
def yX9_measureCells : MethodName := ⟨RX9, "measureCells", "([LLayoutPress$Node;LLayoutPress$Node;)V"⟩
abbrev cX9_widen : ByteArray := prog_11_method_4_code
def yX9_widen : MethodName := ⟨RX9, "widen", "(LLayoutPress$Node;)V"⟩
abbrev cX9_padding : ByteArray := prog_11_method_5_code
def yX9_padding : MethodName := ⟨RX9, "padding", "(LLayoutPress$Node;)I"⟩
abbrev cX9_holds : ByteArray := prog_11_method_6_code
def yX9_holds : MethodName := ⟨RX9, "holds", "(II)Z"⟩
abbrev cX9_lineCost : ByteArray := prog_11_method_7_code
def yX9_lineCost : MethodName := ⟨RX9, "lineCost", "(II)J"⟩
abbrev cX9_costOf : ByteArray := prog_11_method_8_code
def yX9_costOf : MethodName := ⟨RX9, "costOf", "(LLayoutPress$Sheet;)J"⟩
def RX10 : String := "LayoutPress"
def TX10 : u_T := fun k => match k with
  | 0 => ("LayoutPress", "made", "[LLayoutPress$Node;", true)
  | 1 => ("LayoutPress", "madeCount", "I", false)
  | 2 => ("LayoutPress", "terms", "LLayoutPress$Terms;", true)
  | 3 => ("LayoutPress", "search", "LLayoutPress$Search;", true)
  | 4 => ("LayoutPress", "hand", "LLayoutPress$Hand;", true)
  | 5 => ("LayoutPress", "pages", "LLayoutPress$Pages;", true)
  | _ => ("LayoutPress", "printed", "LLayoutPress$Sheet;", false)
def tyX10 : Nat → FieldType := fun k => match k with
  | 0 => .array (.object "LayoutPress$Node")
  | 1 => .int
  | 2 => .object "LayoutPress$Terms"
  | 3 => .object "LayoutPress$Search"
  | 4 => .object "LayoutPress$Hand"
  | 5 => .object "LayoutPress$Pages"
  | _ => .object "LayoutPress$Sheet"
abbrev wsX100 : List Cond := u_ws RX10 TX10 7
theorem nmX10 : ∀ a, a < 7 → ∀ b, b < 7 → a ≠ b → (TX10 a).2.1 ≠ (TX10 b).2.1 := by decide +kernel
theorem tyX10_ok : ∀ k, k < 7 → parseFieldDescriptor (TX10 k).2.2.1 = some (tyX10 k) := by decide +kernel
abbrev cX10_init : ByteArray := prog_1_method_1_code
def yX10_init : MethodName := ⟨RX10, "<init>", "()V"⟩
abbrev cX10_text : ByteArray := prog_1_method_2_code
def yX10_text : MethodName := ⟨RX10, "text", "(II)I"⟩
abbrev cX10_remark : ByteArray := prog_1_method_3_code
def yX10_remark : MethodName := ⟨RX10, "remark", "(II)I"⟩
abbrev cX10_line : ByteArray := prog_1_method_4_code
def yX10_line : MethodName := ⟨RX10, "line", "()I"⟩
abbrev cX10_soft : ByteArray := prog_1_method_5_code
def yX10_soft : MethodName := ⟨RX10, "soft", "()I"⟩
abbrev cX10_hard : ByteArray := prog_1_method_6_code
def yX10_hard : MethodName := ⟨RX10, "hard", "()I"⟩
abbrev cX10_tab : ByteArray := prog_1_method_7_code
def yX10_tab : MethodName := ⟨RX10, "tab", "(I)I"⟩
abbrev cX10_pair : ByteArray := prog_1_method_8_code
def yX10_pair : MethodName := ⟨RX10, "pair", "(II)I"⟩
abbrev cX10_nest : ByteArray := prog_1_method_9_code
def yX10_nest : MethodName := ⟨RX10, "nest", "(II)I"⟩
abbrev cX10_align : ByteArray := prog_1_method_10_code
def yX10_align : MethodName := ⟨RX10, "align", "(I)I"⟩
abbrev cX10_group : ByteArray := prog_1_method_11_code
def yX10_group : MethodName := ⟨RX10, "group", "(I)I"⟩
abbrev cX10_choice : ByteArray := prog_1_method_12_code
def yX10_choice : MethodName := ⟨RX10, "choice", "(II)I"⟩
abbrev cX10_flat : ByteArray := prog_1_method_13_code
def yX10_flat : MethodName := ⟨RX10, "flat", "(I)I"⟩
abbrev cX10_broken : ByteArray := prog_1_method_14_code
def yX10_broken : MethodName := ⟨RX10, "broken", "(II)I"⟩
abbrev cX10_price : ByteArray := prog_1_method_15_code
def yX10_price : MethodName := ⟨RX10, "price", "(II)I"⟩
abbrev cX10_keep : ByteArray := prog_1_method_16_code
def yX10_keep : MethodName := ⟨RX10, "keep", "(II)I"⟩
abbrev cX10_cell : ByteArray := prog_1_method_17_code
def yX10_cell : MethodName := ⟨RX10, "cell", "(III)I"⟩
abbrev cX10_nodes : ByteArray := prog_1_method_18_code
def yX10_nodes : MethodName := ⟨RX10, "nodes", "()I"⟩
abbrev cX10_size : ByteArray := prog_1_method_19_code
def yX10_size : MethodName := ⟨RX10, "size", "(I)I"⟩
abbrev cX10_layouts : ByteArray := prog_1_method_20_code
def yX10_layouts : MethodName := ⟨RX10, "layouts", "(I)I"⟩
abbrev cX10_print : ByteArray := prog_1_method_21_code
def yX10_print : MethodName := ⟨RX10, "print", "(IIII)I"⟩
abbrev cX10_printByAll : ByteArray := prog_1_method_22_code
def yX10_printByAll : MethodName := ⟨RX10, "printByAll", "(IIII)I"⟩
abbrev cX10_printGreedy : ByteArray := prog_1_method_23_code
def yX10_printGreedy : MethodName := ⟨RX10, "printGreedy", "(IIII)I"⟩
abbrev cX10_lines : ByteArray := prog_1_method_24_code
def yX10_lines : MethodName := ⟨RX10, "lines", "()I"⟩
abbrev cX10_length : ByteArray := prog_1_method_25_code
def yX10_length : MethodName := ⟨RX10, "length", "(I)I"⟩
abbrev cX10_signAt : ByteArray := prog_1_method_26_code
def yX10_signAt : MethodName := ⟨RX10, "signAt", "(II)C"⟩
abbrev cX10_nodeAt : ByteArray := prog_1_method_27_code
def yX10_nodeAt : MethodName := ⟨RX10, "nodeAt", "(II)I"⟩
abbrev cX10_placeOf : ByteArray := prog_1_method_28_code
def yX10_placeOf : MethodName := ⟨RX10, "placeOf", "(I)I"⟩
abbrev cX10_decisions : ByteArray := prog_1_method_29_code
def yX10_decisions : MethodName := ⟨RX10, "decisions", "()I"⟩
abbrev cX10_wayAt : ByteArray := prog_1_method_30_code
def yX10_wayAt : MethodName := ⟨RX10, "wayAt", "(I)I"⟩
abbrev cX10_breakPages : ByteArray := prog_1_method_31_code
def yX10_breakPages : MethodName := ⟨RX10, "breakPages", "(I)I"⟩
abbrev cX10_pageOf : ByteArray := prog_1_method_32_code
def yX10_pageOf : MethodName := ⟨RX10, "pageOf", "(I)I"⟩
abbrev cX10_checkRange : ByteArray := prog_1_method_33_code
def yX10_checkRange : MethodName := ⟨RX10, "checkRange", "(III)V"⟩
abbrev cX10_checkLine : ByteArray := prog_1_method_34_code
def yX10_checkLine : MethodName := ⟨RX10, "checkLine", "(I)V"⟩
abbrev cX10_checkColumn : ByteArray := prog_1_method_35_code
def yX10_checkColumn : MethodName := ⟨RX10, "checkColumn", "(II)V"⟩
abbrev cX10_nodeOf : ByteArray := prog_1_method_36_code
def yX10_nodeOf : MethodName := ⟨RX10, "nodeOf", "(I)LLayoutPress$Node;"⟩
abbrev cX10_add : ByteArray := prog_1_method_37_code
def yX10_add : MethodName := ⟨RX10, "add", "(LLayoutPress$Node;)I"⟩
abbrev cX10_agreeOn : ByteArray := prog_1_method_38_code
def yX10_agreeOn : MethodName := ⟨RX10, "agreeOn", "(LLayoutPress$Node;III)V"⟩
abbrev cX10_takeSheet : ByteArray := prog_1_method_39_code
def yX10_takeSheet : MethodName := ⟨RX10, "takeSheet", "()I"⟩
abbrev cX10_wayBit : ByteArray := prog_1_method_40_code
def yX10_wayBit : MethodName := ⟨RX10, "wayBit", "(I)I"⟩
abbrev cX10_wayIn : ByteArray := prog_1_method_41_code
def yX10_wayIn : MethodName := ⟨RX10, "wayIn", "(II)I"⟩
def RX11 : String := "LayoutPressModel"
def TX11 : u_T := fun k => match k with
  | 0 => ("LayoutPressModel", "nodeMany", "I", false)
  | 1 => ("LayoutPressModel", "kinds", "[I", true)
  | 2 => ("LayoutPressModel", "ones", "[I", true)
  | 3 => ("LayoutPressModel", "counts", "[I", true)
  | 4 => ("LayoutPressModel", "firsts", "[I", true)
  | 5 => ("LayoutPressModel", "seconds", "[I", true)
  | 6 => ("LayoutPressModel", "sizes", "[I", true)
  | 7 => ("LayoutPressModel", "flatWays", "[I", true)
  | 8 => ("LayoutPressModel", "ways", "[I", true)
  | 9 => ("LayoutPressModel", "flatLayouts", "[I", true)
  | 10 => ("LayoutPressModel", "layouts", "[I", true)
  | 11 => ("LayoutPressModel", "flatWidths", "[I", true)
  | 12 => ("LayoutPressModel", "isNoCell", "[Z", true)
  | 13 => ("LayoutPressModel", "thrown", "I", false)
  | 14 => ("LayoutPressModel", "stepMany", "I", false)
  | 15 => ("LayoutPressModel", "stepKinds", "[I", true)
  | 16 => ("LayoutPressModel", "stepNodes", "[I", true)
  | 17 => ("LayoutPressModel", "enters", "[I", true)
  | 18 => ("LayoutPressModel", "mids", "[I", true)
  | 19 => ("LayoutPressModel", "leaves", "[I", true)
  | 20 => ("LayoutPressModel", "isForWithin", "[Z", true)
  | 21 => ("LayoutPressModel", "isForBehind", "[Z", true)
  | 22 => ("LayoutPressModel", "regions", "[I", true)
  | 23 => ("LayoutPressModel", "lastEnds", "[I", true)
  | 24 => ("LayoutPressModel", "work", "[I", true)
  | 25 => ("LayoutPressModel", "workMany", "I", false)
  | 26 => ("LayoutPressModel", "cellWidths", "[I", true)
  | 27 => ("LayoutPressModel", "stateMany", "I", false)
  | 28 => ("LayoutPressModel", "columns", "[I", true)
  | 29 => ("LayoutPressModel", "starts", "[I", true)
  | 30 => ("LayoutPressModel", "ends", "[I", true)
  | 31 => ("LayoutPressModel", "isRemarked", "[Z", true)
  | 32 => ("LayoutPressModel", "flats", "[I", true)
  | 33 => ("LayoutPressModel", "indents", "[I", true)
  | 34 => ("LayoutPressModel", "aheads", "[I", true)
  | 35 => ("LayoutPressModel", "passes", "[I", true)
  | 36 => ("LayoutPressModel", "costs", "[I", true)
  | 37 => ("LayoutPressModel", "lineEnds", "[I", true)
  | 38 => ("LayoutPressModel", "bits", "[I", true)
  | 39 => ("LayoutPressModel", "told", "[I", true)
  | 40 => ("LayoutPressModel", "isGone", "[Z", true)
  | 41 => ("LayoutPressModel", "slots", "[I", true)
  | 42 => ("LayoutPressModel", "slotRounds", "[I", true)
  | 43 => ("LayoutPressModel", "round", "I", false)
  | 44 => ("LayoutPressModel", "aheadMany", "I", false)
  | 45 => ("LayoutPressModel", "aheadOf", "[I", true)
  | 46 => ("LayoutPressModel", "indentOf", "[I", true)
  | 47 => ("LayoutPressModel", "nextAhead", "[I", true)
  | 48 => ("LayoutPressModel", "aheadHeads", "[I", true)
  | 49 => ("LayoutPressModel", "width", "I", false)
  | 50 => ("LayoutPressModel", "ribbon", "I", false)
  | 51 => ("LayoutPressModel", "endPrice", "I", false)
  | 52 => ("LayoutPressModel", "given", "[I", true)
  | 53 => ("LayoutPressModel", "givenMany", "I", false)
  | 54 => ("LayoutPressModel", "toldMany", "I", false)
  | 55 => ("LayoutPressModel", "column", "I", false)
  | 56 => ("LayoutPressModel", "start", "I", false)
  | 57 => ("LayoutPressModel", "end", "I", false)
  | 58 => ("LayoutPressModel", "hasRemark", "Z", false)
  | 59 => ("LayoutPressModel", "flatBy", "I", false)
  | 60 => ("LayoutPressModel", "indent", "I", false)
  | 61 => ("LayoutPressModel", "openMany", "I", false)
  | 62 => ("LayoutPressModel", "openIndents", "[I", true)
  | 63 => ("LayoutPressModel", "pass", "I", false)
  | 64 => ("LayoutPressModel", "cost", "I", false)
  | 65 => ("LayoutPressModel", "lineNow", "I", false)
  | 66 => ("LayoutPressModel", "isImpossible", "Z", false)
  | 67 => ("LayoutPressModel", "isOver", "Z", false)
  | 68 => ("LayoutPressModel", "printedLines", "I", false)
  | 69 => ("LayoutPressModel", "rowMany", "I", false)
  | 70 => ("LayoutPressModel", "rowLines", "[I", true)
  | 71 => ("LayoutPressModel", "rowColumns", "[I", true)
  | 72 => ("LayoutPressModel", "rowNodes", "[I", true)
  | 73 => ("LayoutPressModel", "places", "[I", true)
  | 74 => ("LayoutPressModel", "printedWays", "I", false)
  | 75 => ("LayoutPressModel", "printed", "[I", true)
  | 76 => ("LayoutPressModel", "keepMany", "I", false)
  | 77 => ("LayoutPressModel", "keepFroms", "[I", true)
  | 78 => ("LayoutPressModel", "keepTos", "[I", true)
  | 79 => ("LayoutPressModel", "keepCosts", "[I", true)
  | 80 => ("LayoutPressModel", "enterLines", "[I", true)
  | 81 => ("LayoutPressModel", "isBroken", "Z", false)
  | 82 => ("LayoutPressModel", "pageOfLine", "[I", true)
  | 83 => ("LayoutPressModel", "bestWays", "[I", true)
  | 84 => ("LayoutPressModel", "pageCosts", "[I", true)
  | 85 => ("LayoutPressModel", "pagesFrom", "[I", true)
  | _ => ("LayoutPressModel", "firstLines", "[I", true)
def tyX11 : Nat → FieldType := fun k => match k with
  | 0 => .int
  | 1 => .array .int
  | 2 => .array .int
  | 3 => .array .int
  | 4 => .array .int
  | 5 => .array .int
  | 6 => .array .int
  | 7 => .array .int
  | 8 => .array .int
  | 9 => .array .int
  | 10 => .array .int
  | 11 => .array .int
  | 12 => .array .boolean
  | 13 => .int
  | 14 => .int
  | 15 => .array .int
  | 16 => .array .int
  | 17 => .array .int
  | 18 => .array .int
  | 19 => .array .int
  | 20 => .array .boolean
  | 21 => .array .boolean
  | 22 => .array .int
  | 23 => .array .int
  | 24 => .array .int
  | 25 => .int
  | 26 => .array .int
  | 27 => .int
  | 28 => .array .int
  | 29 => .array .int
  | 30 => .array .int
  | 31 => .array .boolean
  | 32 => .array .int
  | 33 => .array .int
  | 34 => .array .int
  | 35 => .array .int
  | 36 => .array .int
  | 37 => .array .int
  | 38 => .array .int
  | 39 => .array .int
  | 40 => .array .boolean
  | 41 => .array .int
  | 42 => .array .int
  | 43 => .int
  | 44 => .int
  | 45 => .array .int
  | 46 => .array .int
  | 47 => .array .int
  | 48 => .array .int
  | 49 => .int
  | 50 => .int
  | 51 => .int
  | 52 => .array .int
  | 53 => .int
  | 54 => .int
  | 55 => .int
  | 56 => .int
  | 57 => .int
  | 58 => .boolean
  | 59 => .int
  | 60 => .int
  | 61 => .int
  | 62 => .array .int
  | 63 => .int
  | 64 => .int
  | 65 => .int
  | 66 => .boolean
  | 67 => .boolean
  | 68 => .int
  | 69 => .int
  | 70 => .array .int
  | 71 => .array .int
  | 72 => .array .int
  | 73 => .array .int
  | 74 => .int
  | 75 => .array .int
  | 76 => .int
  | 77 => .array .int
  | 78 => .array .int
  | 79 => .array .int
  | 80 => .array .int
  | 81 => .boolean
  | 82 => .array .int
  | 83 => .array .int
  | 84 => .array .int
  | 85 => .array .int
  | _ => .array .int
abbrev wsX110 : List Cond := u_ws RX11 TX11 87
theorem nmX11 : ∀ a, a < 87 → ∀ b, b < 87 → a ≠ b → (TX11 a).2.1 ≠ (TX11 b).2.1 := by decide +kernel
theorem tyX11_ok : ∀ k, k < 87 → parseFieldDescriptor (TX11 k).2.2.1 = some (tyX11 k) := by decide +kernel
abbrev cX11_init : ByteArray := prog_13_method_1_code
def yX11_init : MethodName := ⟨RX11, "<init>", "()V"⟩
abbrev cX11_thrown : ByteArray := prog_13_method_2_code
def yX11_thrown : MethodName := ⟨RX11, "thrown", "()I"⟩
abbrev cX11_in : ByteArray := prog_13_method_3_code
def yX11_in : MethodName := ⟨RX11, "in", "(III)Z"⟩
abbrev cX11_isNode : ByteArray := prog_13_method_4_code
def yX11_isNode : MethodName := ⟨RX11, "isNode", "(I)Z"⟩
abbrev cX11_capped : ByteArray := prog_13_method_5_code
def yX11_capped : MethodName := ⟨RX11, "capped", "(J)I"⟩
abbrev cX11_greater : ByteArray := prog_13_method_6_code
def yX11_greater : MethodName := ⟨RX11, "greater", "(II)I"⟩
abbrev cX11_leaf : ByteArray := prog_13_method_7_code
def yX11_leaf : MethodName := ⟨RX11, "leaf", "(III)I"⟩
abbrev cX11_lays : ByteArray := prog_13_method_8_code
def yX11_lays : MethodName := ⟨RX11, "lays", "(IIII)Z"⟩
abbrev cX11_made : ByteArray := prog_13_method_9_code
def yX11_made : MethodName := ⟨RX11, "made", "(IIIII)I"⟩
abbrev cX11_text : ByteArray := prog_13_method_10_code
def yX11_text : MethodName := ⟨RX11, "text", "(II)I"⟩
abbrev cX11_remark : ByteArray := prog_13_method_11_code
def yX11_remark : MethodName := ⟨RX11, "remark", "(II)I"⟩
abbrev cX11_end : ByteArray := prog_13_method_12_code
def yX11_end : MethodName := ⟨RX11, "end", "(I)I"⟩
abbrev cX11_line : ByteArray := prog_13_method_13_code
def yX11_line : MethodName := ⟨RX11, "line", "()I"⟩
abbrev cX11_soft : ByteArray := prog_13_method_14_code
def yX11_soft : MethodName := ⟨RX11, "soft", "()I"⟩
abbrev cX11_hard : ByteArray := prog_13_method_15_code
def yX11_hard : MethodName := ⟨RX11, "hard", "()I"⟩
abbrev cX11_tab : ByteArray := prog_13_method_16_code
def yX11_tab : MethodName := ⟨RX11, "tab", "(I)I"⟩
abbrev cX11_areNodes : ByteArray := prog_13_method_17_code
def yX11_areNodes : MethodName := ⟨RX11, "areNodes", "(II)Z"⟩
abbrev cX11_pair : ByteArray := prog_13_method_18_code
def yX11_pair : MethodName := ⟨RX11, "pair", "(II)I"⟩
abbrev cX11_isPart : ByteArray := prog_13_method_19_code
def yX11_isPart : MethodName := ⟨RX11, "isPart", "(IZ)Z"⟩
abbrev cX11_nest : ByteArray := prog_13_method_20_code
def yX11_nest : MethodName := ⟨RX11, "nest", "(II)I"⟩
abbrev cX11_align : ByteArray := prog_13_method_21_code
def yX11_align : MethodName := ⟨RX11, "align", "(I)I"⟩
abbrev cX11_group : ByteArray := prog_13_method_22_code
def yX11_group : MethodName := ⟨RX11, "group", "(I)I"⟩
abbrev cX11_choice : ByteArray := prog_13_method_23_code
def yX11_choice : MethodName := ⟨RX11, "choice", "(II)I"⟩
abbrev cX11_flat : ByteArray := prog_13_method_24_code
def yX11_flat : MethodName := ⟨RX11, "flat", "(I)I"⟩
abbrev cX11_broken : ByteArray := prog_13_method_25_code
def yX11_broken : MethodName := ⟨RX11, "broken", "(II)I"⟩
abbrev cX11_price : ByteArray := prog_13_method_26_code
def yX11_price : MethodName := ⟨RX11, "price", "(II)I"⟩
abbrev cX11_keep : ByteArray := prog_13_method_27_code
def yX11_keep : MethodName := ⟨RX11, "keep", "(II)I"⟩
abbrev cX11_cell : ByteArray := prog_13_method_28_code
def yX11_cell : MethodName := ⟨RX11, "cell", "(III)I"⟩
abbrev cX11_nodes : ByteArray := prog_13_method_29_code
def yX11_nodes : MethodName := ⟨RX11, "nodes", "()I"⟩
abbrev cX11_size : ByteArray := prog_13_method_30_code
def yX11_size : MethodName := ⟨RX11, "size", "(I)I"⟩
abbrev cX11_layouts : ByteArray := prog_13_method_31_code
def yX11_layouts : MethodName := ⟨RX11, "layouts", "(I)I"⟩
abbrev cX11_later : ByteArray := prog_13_method_32_code
def yX11_later : MethodName := ⟨RX11, "later", "(II)V"⟩
abbrev cX11_step : ByteArray := prog_13_method_33_code
def yX11_step : MethodName := ⟨RX11, "step", "(III)I"⟩
abbrev cX11_layNode : ByteArray := prog_13_method_34_code
def yX11_layNode : MethodName := ⟨RX11, "layNode", "(I)V"⟩
abbrev cX11_laySteps : ByteArray := prog_13_method_35_code
def yX11_laySteps : MethodName := ⟨RX11, "laySteps", "(I)V"⟩
abbrev cX11_endsLine : ByteArray := prog_13_method_36_code
def yX11_endsLine : MethodName := ⟨RX11, "endsLine", "(I)Z"⟩
abbrev cX11_layRegions : ByteArray := prog_13_method_37_code
def yX11_layRegions : MethodName := ⟨RX11, "layRegions", "()V"⟩
abbrev cX11_lineCost : ByteArray := prog_13_method_38_code
def yX11_lineCost : MethodName := ⟨RX11, "lineCost", "(II)I"⟩
abbrev cX11_aheadNumber : ByteArray := prog_13_method_39_code
def yX11_aheadNumber : MethodName := ⟨RX11, "aheadNumber", "(II)I"⟩
abbrev cX11_copyState : ByteArray := prog_13_method_40_code
def yX11_copyState : MethodName := ⟨RX11, "copyState", "(II)V"⟩
abbrev cX11_fork : ByteArray := prog_13_method_41_code
def yX11_fork : MethodName := ⟨RX11, "fork", "(I)I"⟩
abbrev cX11_signs : ByteArray := prog_13_method_42_code
def yX11_signs : MethodName := ⟨RX11, "signs", "(II)V"⟩
abbrev cX11_endLine : ByteArray := prog_13_method_43_code
def yX11_endLine : MethodName := ⟨RX11, "endLine", "(I)V"⟩
abbrev cX11_leafStep : ByteArray := prog_13_method_44_code
def yX11_leafStep : MethodName := ⟨RX11, "leafStep", "(II)V"⟩
abbrev cX11_enterStep : ByteArray := prog_13_method_45_code
def yX11_enterStep : MethodName := ⟨RX11, "enterStep", "(II)V"⟩
abbrev cX11_leaveStep : ByteArray := prog_13_method_46_code
def yX11_leaveStep : MethodName := ⟨RX11, "leaveStep", "(II)V"⟩
abbrev cX11_takeStep : ByteArray := prog_13_method_47_code
def yX11_takeStep : MethodName := ⟨RX11, "takeStep", "(II)V"⟩
abbrev cX11_isBetter : ByteArray := prog_13_method_48_code
def yX11_isBetter : MethodName := ⟨RX11, "isBetter", "(II)Z"⟩
abbrev cX11_areAlike : ByteArray := prog_13_method_49_code
def yX11_areAlike : MethodName := ⟨RX11, "areAlike", "(II)Z"⟩
abbrev cX11_slotOf : ByteArray := prog_13_method_50_code
def yX11_slotOf : MethodName := ⟨RX11, "slotOf", "(I)I"⟩
abbrev cX11_unite : ByteArray := prog_13_method_51_code
def yX11_unite : MethodName := ⟨RX11, "unite", "()V"⟩
abbrev cX11_beginAll : ByteArray := prog_13_method_52_code
def yX11_beginAll : MethodName := ⟨RX11, "beginAll", "()V"⟩
abbrev cX11_bestOf : ByteArray := prog_13_method_53_code
def yX11_bestOf : MethodName := ⟨RX11, "bestOf", "(I)I"⟩
abbrev cX11_wayNow : ByteArray := prog_13_method_54_code
def yX11_wayNow : MethodName := ⟨RX11, "wayNow", "()I"⟩
abbrev cX11_fitsNow : ByteArray := prog_13_method_55_code
def yX11_fitsNow : MethodName := ⟨RX11, "fitsNow", "()Z"⟩
abbrev cX11_playEnd : ByteArray := prog_13_method_56_code
def yX11_playEnd : MethodName := ⟨RX11, "playEnd", "(I)V"⟩
abbrev cX11_playLeaf : ByteArray := prog_13_method_57_code
def yX11_playLeaf : MethodName := ⟨RX11, "playLeaf", "(IIZ)V"⟩
abbrev cX11_playEnter : ByteArray := prog_13_method_58_code
def yX11_playEnter : MethodName := ⟨RX11, "playEnter", "(IIZ)V"⟩
abbrev cX11_playLeave : ByteArray := prog_13_method_59_code
def yX11_playLeave : MethodName := ⟨RX11, "playLeave", "(IZ)V"⟩
abbrev cX11_play : ByteArray := prog_13_method_60_code
def yX11_play : MethodName := ⟨RX11, "play", "(IZ)V"⟩
abbrev cX11_record : ByteArray := prog_13_method_61_code
def yX11_record : MethodName := ⟨RX11, "record", "()I"⟩
abbrev cX11_asksToPrint : ByteArray := prog_13_method_62_code
def yX11_asksToPrint : MethodName := ⟨RX11, "asksToPrint", "(IIII)Z"⟩
abbrev cX11_printBest : ByteArray := prog_13_method_63_code
def yX11_printBest : MethodName := ⟨RX11, "printBest", "(I)I"⟩
abbrev cX11_print : ByteArray := prog_13_method_64_code
def yX11_print : MethodName := ⟨RX11, "print", "(IIII)I"⟩
abbrev cX11_goesAhead : ByteArray := prog_13_method_65_code
def yX11_goesAhead : MethodName := ⟨RX11, "goesAhead", "(III)Z"⟩
abbrev cX11_goesOn : ByteArray := prog_13_method_66_code
def yX11_goesOn : MethodName := ⟨RX11, "goesOn", "()Z"⟩
abbrev cX11_playFirst : ByteArray := prog_13_method_67_code
def yX11_playFirst : MethodName := ⟨RX11, "playFirst", "()V"⟩
abbrev cX11_printByAll : ByteArray := prog_13_method_68_code
def yX11_printByAll : MethodName := ⟨RX11, "printByAll", "(IIII)I"⟩
abbrev cX11_printGreedy : ByteArray := prog_13_method_69_code
def yX11_printGreedy : MethodName := ⟨RX11, "printGreedy", "(IIII)I"⟩
abbrev cX11_isLine : ByteArray := prog_13_method_70_code
def yX11_isLine : MethodName := ⟨RX11, "isLine", "(I)Z"⟩
abbrev cX11_lines : ByteArray := prog_13_method_71_code
def yX11_lines : MethodName := ⟨RX11, "lines", "()I"⟩
abbrev cX11_lengthOf : ByteArray := prog_13_method_72_code
def yX11_lengthOf : MethodName := ⟨RX11, "lengthOf", "(I)I"⟩
abbrev cX11_length : ByteArray := prog_13_method_73_code
def yX11_length : MethodName := ⟨RX11, "length", "(I)I"⟩
abbrev cX11_rowAt : ByteArray := prog_13_method_74_code
def yX11_rowAt : MethodName := ⟨RX11, "rowAt", "(II)I"⟩
abbrev cX11_isPlace : ByteArray := prog_13_method_75_code
def yX11_isPlace : MethodName := ⟨RX11, "isPlace", "(II)Z"⟩
abbrev cX11_signAt : ByteArray := prog_13_method_76_code
def yX11_signAt : MethodName := ⟨RX11, "signAt", "(II)C"⟩
abbrev cX11_nodeAt : ByteArray := prog_13_method_77_code
def yX11_nodeAt : MethodName := ⟨RX11, "nodeAt", "(II)I"⟩
abbrev cX11_placeOf : ByteArray := prog_13_method_78_code
def yX11_placeOf : MethodName := ⟨RX11, "placeOf", "(I)I"⟩
abbrev cX11_decisions : ByteArray := prog_13_method_79_code
def yX11_decisions : MethodName := ⟨RX11, "decisions", "()I"⟩
abbrev cX11_wayAt : ByteArray := prog_13_method_80_code
def yX11_wayAt : MethodName := ⟨RX11, "wayAt", "(I)I"⟩
abbrev cX11_endCost : ByteArray := prog_13_method_81_code
def yX11_endCost : MethodName := ⟨RX11, "endCost", "(I)I"⟩
abbrev cX11_breakPages : ByteArray := prog_13_method_82_code
def yX11_breakPages : MethodName := ⟨RX11, "breakPages", "(I)I"⟩
abbrev cX11_pageOf : ByteArray := prog_13_method_83_code
def yX11_pageOf : MethodName := ⟨RX11, "pageOf", "(I)I"⟩
def RJx145de : String := "java/io/Serializable"
def TJx145de : u_T := fun k => match k with
  | _ => ("", "", "", false)
def tyJx145de : Nat → FieldType := fun k => match k with
  | _ => .int
abbrev wsJx145de0 : List Cond := u_ws RJx145de TJx145de 0
theorem nmJx145de : ∀ a, a < 0 → ∀ b, b < 0 → a ≠ b → (TJx145de a).2.1 ≠ (TJx145de b).2.1 := by decide +kernel
theorem tyJx145de_ok : ∀ k, k < 0 → parseFieldDescriptor (TJx145de k).2.2.1 = some (tyJx145de k) := by decide +kernel
def RJ5 : String := "java/lang/AbstractStringBuilder"
def TJ5 : u_T := fun k => match k with
  | _ => ("", "", "", false)
def tyJ5 : Nat → FieldType := fun k => match k with
  | _ => .int
abbrev wsJ50 : List Cond := u_ws RJ5 TJ5 0
theorem nmJ5 : ∀ a, a < 0 → ∀ b, b < 0 → a ≠ b → (TJ5 a).2.1 ≠ (TJ5 b).2.1 := by decide +kernel
theorem tyJ5_ok : ∀ k, k < 0 → parseFieldDescriptor (TJ5 k).2.2.1 = some (tyJ5 k) := by decide +kernel
abbrev cJ5_init_d00df : ByteArray := prog_14_method_2_code
def yJ5_init_d00df : MethodName := ⟨RJ5, "<init>", "(I)V"⟩
abbrev cJ5_length_8abf5 : ByteArray := prog_14_method_6_code
def yJ5_length_8abf5 : MethodName := ⟨RJ5, "length", "()I"⟩
abbrev cJ5_ensureCapacityInternal_d00df : ByteArray := prog_14_method_9_code
def yJ5_ensureCapacityInternal_d00df : MethodName := ⟨RJ5, "ensureCapacityInternal", "(I)V"⟩
abbrev cJ5_newCapacity_0f7a4 : ByteArray := prog_14_method_10_code
def yJ5_newCapacity_0f7a4 : MethodName := ⟨RJ5, "newCapacity", "(I)I"⟩
abbrev cJ5_inflate_da8c8 : ByteArray := prog_14_method_11_code
def yJ5_inflate_da8c8 : MethodName := ⟨RJ5, "inflate", "()V"⟩
abbrev cJ5_append_cf1ce : ByteArray := prog_14_method_22_code
def yJ5_append_cf1ce : MethodName := ⟨RJ5, "append", "(Ljava/lang/String;)Ljava/lang/AbstractStringBuilder;"⟩
abbrev cJ5_appendNull_278bc : ByteArray := prog_14_method_26_code
def yJ5_appendNull_278bc : MethodName := ⟨RJ5, "appendNull", "()Ljava/lang/AbstractStringBuilder;"⟩
abbrev cJ5_append_c97b9 : ByteArray := prog_14_method_32_code
def yJ5_append_c97b9 : MethodName := ⟨RJ5, "append", "(I)Ljava/lang/AbstractStringBuilder;"⟩
abbrev cJ5_getValue_6d5f1 : ByteArray := prog_14_method_64_code
def yJ5_getValue_6d5f1 : MethodName := ⟨RJ5, "getValue", "()[B"⟩
abbrev cJ5_isLatin1_aae02 : ByteArray := prog_14_method_68_code
def yJ5_isLatin1_aae02 : MethodName := ⟨RJ5, "isLatin1", "()Z"⟩
abbrev cJ5_inflateIfNeededFor_a7421 : ByteArray := prog_14_method_71_code
def yJ5_inflateIfNeededFor_a7421 : MethodName := ⟨RJ5, "inflateIfNeededFor", "(Ljava/lang/String;)V"⟩
abbrev cJ5_putStringAt_47b60 : ByteArray := prog_14_method_73_code
def yJ5_putStringAt_47b60 : MethodName := ⟨RJ5, "putStringAt", "(ILjava/lang/String;)V"⟩
def RJx2cfe8 : String := "java/lang/Appendable"
def TJx2cfe8 : u_T := fun k => match k with
  | _ => ("", "", "", false)
def tyJx2cfe8 : Nat → FieldType := fun k => match k with
  | _ => .int
abbrev wsJx2cfe80 : List Cond := u_ws RJx2cfe8 TJx2cfe8 0
theorem nmJx2cfe8 : ∀ a, a < 0 → ∀ b, b < 0 → a ≠ b → (TJx2cfe8 a).2.1 ≠ (TJx2cfe8 b).2.1 := by decide +kernel
theorem tyJx2cfe8_ok : ∀ k, k < 0 → parseFieldDescriptor (TJx2cfe8 k).2.2.1 = some (tyJx2cfe8 k) := by decide +kernel
def RJx00060 : String := "java/lang/ArrayIndexOutOfBoundsException"
def TJx00060 : u_T := fun k => match k with
  | 0 => ("java/lang/Throwable", "cause", "Ljava/lang/Throwable;", false)
  | 1 => ("java/lang/Throwable", "stackTrace", "[Ljava/lang/StackTraceElement;", false)
  | 2 => ("java/lang/Throwable", "suppressedExceptions", "Ljava/util/List;", false)
  | 3 => ("java/lang/Throwable", "detailMessage", "Ljava/lang/String;", false)
  | 4 => ("java/lang/Throwable", "backtrace", "Ljava/lang/Object;", false)
  | _ => ("java/lang/Throwable", "depth", "I", false)
def tyJx00060 : Nat → FieldType := fun k => match k with
  | 0 => .object "java/lang/Throwable"
  | 1 => .array (.object "java/lang/StackTraceElement")
  | 2 => .object "java/util/List"
  | 3 => .object "java/lang/String"
  | 4 => .object "java/lang/Object"
  | _ => .int
abbrev wsJx000600 : List Cond := u_ws RJx00060 TJx00060 6
theorem nmJx00060 : ∀ a, a < 6 → ∀ b, b < 6 → a ≠ b → (TJx00060 a).2.1 ≠ (TJx00060 b).2.1 := by decide +kernel
theorem tyJx00060_ok : ∀ k, k < 6 → parseFieldDescriptor (TJx00060 k).2.2.1 = some (tyJx00060 k) := by decide +kernel
abbrev cJx00060_init_d00df : ByteArray := prog_15_method_3_code
def yJx00060_init_d00df : MethodName := ⟨RJx00060, "<init>", "(I)V"⟩
def RJx9f9b0 : String := "java/lang/CharSequence"
def TJx9f9b0 : u_T := fun k => match k with
  | _ => ("", "", "", false)
def tyJx9f9b0 : Nat → FieldType := fun k => match k with
  | _ => .int
abbrev wsJx9f9b00 : List Cond := u_ws RJx9f9b0 TJx9f9b0 0
theorem nmJx9f9b0 : ∀ a, a < 0 → ∀ b, b < 0 → a ≠ b → (TJx9f9b0 a).2.1 ≠ (TJx9f9b0 b).2.1 := by decide +kernel
theorem tyJx9f9b0_ok : ∀ k, k < 0 → parseFieldDescriptor (TJx9f9b0 k).2.2.1 = some (tyJx9f9b0 k) := by decide +kernel
def RJx8e188 : String := "java/lang/Cloneable"
def TJx8e188 : u_T := fun k => match k with
  | _ => ("", "", "", false)
def tyJx8e188 : Nat → FieldType := fun k => match k with
  | _ => .int
abbrev wsJx8e1880 : List Cond := u_ws RJx8e188 TJx8e188 0
theorem nmJx8e188 : ∀ a, a < 0 → ∀ b, b < 0 → a ≠ b → (TJx8e188 a).2.1 ≠ (TJx8e188 b).2.1 := by decide +kernel
theorem tyJx8e188_ok : ∀ k, k < 0 → parseFieldDescriptor (TJx8e188 k).2.2.1 = some (tyJx8e188 k) := by decide +kernel
def RJxb160c : String := "java/lang/Comparable"
def TJxb160c : u_T := fun k => match k with
  | _ => ("", "", "", false)
def tyJxb160c : Nat → FieldType := fun k => match k with
  | _ => .int
abbrev wsJxb160c0 : List Cond := u_ws RJxb160c TJxb160c 0
theorem nmJxb160c : ∀ a, a < 0 → ∀ b, b < 0 → a ≠ b → (TJxb160c a).2.1 ≠ (TJxb160c b).2.1 := by decide +kernel
theorem tyJxb160c_ok : ∀ k, k < 0 → parseFieldDescriptor (TJxb160c k).2.2.1 = some (tyJxb160c k) := by decide +kernel
def RJx29ce0 : String := "java/lang/Enum"
def TJx29ce0 : u_T := fun k => match k with
  | _ => ("", "", "", false)
def tyJx29ce0 : Nat → FieldType := fun k => match k with
  | _ => .int
abbrev wsJx29ce00 : List Cond := u_ws RJx29ce0 TJx29ce0 0
theorem nmJx29ce0 : ∀ a, a < 0 → ∀ b, b < 0 → a ≠ b → (TJx29ce0 a).2.1 ≠ (TJx29ce0 b).2.1 := by decide +kernel
theorem tyJx29ce0_ok : ∀ k, k < 0 → parseFieldDescriptor (TJx29ce0 k).2.2.1 = some (tyJx29ce0 k) := by decide +kernel
abbrev cJx29ce0_ordinal_8abf5 : ByteArray := prog_17_method_2_code
def yJx29ce0_ordinal_8abf5 : MethodName := ⟨RJx29ce0, "ordinal", "()I"⟩
def RJ6 : String := "java/lang/Integer"
def TJ6 : u_T := fun k => match k with
  | _ => ("", "", "", false)
def tyJ6 : Nat → FieldType := fun k => match k with
  | _ => .int
abbrev wsJ60 : List Cond := u_ws RJ6 TJ6 0
theorem nmJ6 : ∀ a, a < 0 → ∀ b, b < 0 → a ≠ b → (TJ6 a).2.1 ≠ (TJ6 b).2.1 := by decide +kernel
theorem tyJ6_ok : ∀ k, k < 0 → parseFieldDescriptor (TJ6 k).2.2.1 = some (tyJ6 k) := by decide +kernel
abbrev cJ6_getChars_ba4f3 : ByteArray := prog_22_method_12_code
def yJ6_getChars_ba4f3 : MethodName := ⟨RJ6, "getChars", "(II[B)I"⟩
abbrev cJ6_stringSize_0f7a4 : ByteArray := prog_22_method_13_code
def yJ6_stringSize_0f7a4 : MethodName := ⟨RJ6, "stringSize", "(I)I"⟩
def RJ9 : String := "java/lang/Math"
def TJ9 : u_T := fun k => match k with
  | _ => ("", "", "", false)
def tyJ9 : Nat → FieldType := fun k => match k with
  | _ => .int
abbrev wsJ90 : List Cond := u_ws RJ9 TJ9 0
theorem nmJ9 : ∀ a, a < 0 → ∀ b, b < 0 → a ≠ b → (TJ9 a).2.1 ≠ (TJ9 b).2.1 := by decide +kernel
theorem tyJ9_ok : ∀ k, k < 0 → parseFieldDescriptor (TJ9 k).2.2.1 = some (tyJ9 k) := by decide +kernel
abbrev cJ9_max_7cf53 : ByteArray := prog_23_method_65_code
def yJ9_max_7cf53 : MethodName := ⟨RJ9, "max", "(II)I"⟩
abbrev cJ9_max_f86c9 : ByteArray := prog_23_method_66_code
def yJ9_max_f86c9 : MethodName := ⟨RJ9, "max", "(JJ)J"⟩
abbrev cJ9_min_7cf53 : ByteArray := prog_23_method_69_code
def yJ9_min_7cf53 : MethodName := ⟨RJ9, "min", "(II)I"⟩
abbrev cJ9_min_f86c9 : ByteArray := prog_23_method_70_code
def yJ9_min_f86c9 : MethodName := ⟨RJ9, "min", "(JJ)J"⟩
def RJxd2413 : String := "java/lang/Number"
def TJxd2413 : u_T := fun k => match k with
  | _ => ("", "", "", false)
def tyJxd2413 : Nat → FieldType := fun k => match k with
  | _ => .int
abbrev wsJxd24130 : List Cond := u_ws RJxd2413 TJxd2413 0
theorem nmJxd2413 : ∀ a, a < 0 → ∀ b, b < 0 → a ≠ b → (TJxd2413 a).2.1 ≠ (TJxd2413 b).2.1 := by decide +kernel
theorem tyJxd2413_ok : ∀ k, k < 0 → parseFieldDescriptor (TJxd2413 k).2.2.1 = some (tyJxd2413 k) := by decide +kernel
def RJ0 : String := "java/lang/String"
def TJ0 : u_T := fun k => match k with
  | 0 => ("java/lang/String", "value", "[B", true)
  | 1 => ("java/lang/String", "coder", "B", true)
  | 2 => ("java/lang/String", "hash", "I", false)
  | _ => ("java/lang/String", "hashIsZero", "Z", false)
def tyJ0 : Nat → FieldType := fun k => match k with
  | 0 => .array .byte
  | 1 => .byte
  | 2 => .int
  | _ => .boolean
abbrev wsJ00 : List Cond := u_ws RJ0 TJ0 4
theorem nmJ0 : ∀ a, a < 4 → ∀ b, b < 4 → a ≠ b → (TJ0 a).2.1 ≠ (TJ0 b).2.1 := by decide +kernel
theorem tyJ0_ok : ∀ k, k < 4 → parseFieldDescriptor (TJ0 k).2.2.1 = some (tyJ0 k) := by decide +kernel
abbrev cJ0_init_81219 : ByteArray := prog_26_method_53_code
def yJ0_init_81219 : MethodName := ⟨RJ0, "<init>", "(Ljava/lang/StringBuilder;)V"⟩
abbrev cJ0_length_8abf5 : ByteArray := prog_26_method_54_code
def yJ0_length_8abf5 : MethodName := ⟨RJ0, "length", "()I"⟩
abbrev cJ0_getBytes_840e7 : ByteArray := prog_26_method_147_code
def yJ0_getBytes_840e7 : MethodName := ⟨RJ0, "getBytes", "([BIB)V"⟩
abbrev cJ0_init_db425 : ByteArray := prog_26_method_150_code
def yJ0_init_db425 : MethodName := ⟨RJ0, "<init>", "(Ljava/lang/AbstractStringBuilder;Ljava/lang/Void;)V"⟩
abbrev cJ0_coder_7d493 : ByteArray := prog_26_method_152_code
def yJ0_coder_7d493 : MethodName := ⟨RJ0, "coder", "()B"⟩
abbrev cJ0_checkBoundsOffCount_cabcc : ByteArray := prog_26_method_157_code
def yJ0_checkBoundsOffCount_cabcc : MethodName := ⟨RJ0, "checkBoundsOffCount", "(III)I"⟩
abbrev cJ0_checkBoundsBeginEnd_23922 : ByteArray := prog_26_method_158_code
def yJ0_checkBoundsBeginEnd_23922 : MethodName := ⟨RJ0, "checkBoundsBeginEnd", "(III)V"⟩
def RJ4 : String := "java/lang/StringBuilder"
def TJ4 : u_T := fun k => match k with
  | 0 => ("java/lang/AbstractStringBuilder", "value", "[B", false)
  | 1 => ("java/lang/AbstractStringBuilder", "coder", "B", false)
  | 2 => ("java/lang/AbstractStringBuilder", "maybeLatin1", "Z", false)
  | _ => ("java/lang/AbstractStringBuilder", "count", "I", false)
def tyJ4 : Nat → FieldType := fun k => match k with
  | 0 => .array .byte
  | 1 => .byte
  | 2 => .boolean
  | _ => .int
abbrev wsJ40 : List Cond := u_ws RJ4 TJ4 4
theorem nmJ4 : ∀ a, a < 4 → ∀ b, b < 4 → a ≠ b → (TJ4 a).2.1 ≠ (TJ4 b).2.1 := by decide +kernel
theorem tyJ4_ok : ∀ k, k < 4 → parseFieldDescriptor (TJ4 k).2.2.1 = some (tyJ4 k) := by decide +kernel
abbrev cJ4_init_da8c8 : ByteArray := prog_27_method_1_code
def yJ4_init_da8c8 : MethodName := ⟨RJ4, "<init>", "()V"⟩
abbrev cJ4_append_15ec4 : ByteArray := prog_27_method_7_code
def yJ4_append_15ec4 : MethodName := ⟨RJ4, "append", "(Ljava/lang/String;)Ljava/lang/StringBuilder;"⟩
abbrev cJ4_append_bf812 : ByteArray := prog_27_method_15_code
def yJ4_append_bf812 : MethodName := ⟨RJ4, "append", "(I)Ljava/lang/StringBuilder;"⟩
abbrev cJ4_toString_0e30d : ByteArray := prog_27_method_42_code
def yJ4_toString_0e30d : MethodName := ⟨RJ4, "toString", "()Ljava/lang/String;"⟩
abbrev cJ4_length_8abf5 : ByteArray := prog_27_method_93_code
def yJ4_length_8abf5 : MethodName := ⟨RJ4, "length", "()I"⟩
def RJ1 : String := "java/lang/StringLatin1"
def TJ1 : u_T := fun k => match k with
  | _ => ("", "", "", false)
def tyJ1 : Nat → FieldType := fun k => match k with
  | _ => .int
abbrev wsJ10 : List Cond := u_ws RJ1 TJ1 0
theorem nmJ1 : ∀ a, a < 0 → ∀ b, b < 0 → a ≠ b → (TJ1 a).2.1 ≠ (TJ1 b).2.1 := by decide +kernel
theorem tyJ1_ok : ∀ k, k < 0 → parseFieldDescriptor (TJ1 k).2.2.1 = some (tyJ1 k) := by decide +kernel
abbrev cJ1_inflate_0e8fd : ByteArray := prog_28_method_50_code
def yJ1_inflate_0e8fd : MethodName := ⟨RJ1, "inflate", "([BI[BII)V"⟩
def RJ2 : String := "java/lang/StringUTF16"
def TJ2 : u_T := fun k => match k with
  | _ => ("", "", "", false)
def tyJ2 : Nat → FieldType := fun k => match k with
  | _ => .int
abbrev wsJ20 : List Cond := u_ws RJ2 TJ2 0
theorem nmJ2 : ∀ a, a < 0 → ∀ b, b < 0 → a ≠ b → (TJ2 a).2.1 ≠ (TJ2 b).2.1 := by decide +kernel
theorem tyJ2_ok : ∀ k, k < 0 → parseFieldDescriptor (TJ2 k).2.2.1 = some (tyJ2 k) := by decide +kernel
abbrev cJ2_newBytesFor_77867 : ByteArray := prog_29_method_2_code
def yJ2_newBytesFor_77867 : MethodName := ⟨RJ2, "newBytesFor", "(I)[B"⟩
abbrev cJ2_newBytesLength_0f7a4 : ByteArray := prog_29_method_3_code
def yJ2_newBytesLength_0f7a4 : MethodName := ⟨RJ2, "newBytesLength", "(I)I"⟩
abbrev cJ2_putChar_b72d1 : ByteArray := prog_29_method_4_code
def yJ2_putChar_b72d1 : MethodName := ⟨RJ2, "putChar", "([BII)V"⟩
abbrev cJ2_getChar_3b067 : ByteArray := prog_29_method_5_code
def yJ2_getChar_3b067 : MethodName := ⟨RJ2, "getChar", "([BI)C"⟩
abbrev cJ2_length_9d52b : ByteArray := prog_29_method_6_code
def yJ2_length_9d52b : MethodName := ⟨RJ2, "length", "([B)I"⟩
abbrev cJ2_coderFromArrayLen_85cad : ByteArray := prog_29_method_15_code
def yJ2_coderFromArrayLen_85cad : MethodName := ⟨RJ2, "coderFromArrayLen", "([BI)B"⟩
abbrev cJ2_compress_39247 : ByteArray := prog_29_method_17_code
def yJ2_compress_39247 : MethodName := ⟨RJ2, "compress", "([BII)[B"⟩
abbrev cJ2_compress_5af95 : ByteArray := prog_29_method_22_code
def yJ2_compress_5af95 : MethodName := ⟨RJ2, "compress", "([BI[BII)I"⟩
abbrev cJ2_getChars_46870 : ByteArray := prog_29_method_77_code
def yJ2_getChars_46870 : MethodName := ⟨RJ2, "getChars", "(III[B)I"⟩
abbrev cJ2_putCharsAt_cd4e5 : ByteArray := prog_29_method_81_code
def yJ2_putCharsAt_cd4e5 : MethodName := ⟨RJ2, "putCharsAt", "([BICCCC)I"⟩
abbrev cJ2_inflate_0e8fd : ByteArray := prog_29_method_86_code
def yJ2_inflate_0e8fd : MethodName := ⟨RJ2, "inflate", "([BI[BII)V"⟩
abbrev cJ2_getChars_ba4f3 : ByteArray := prog_29_method_89_code
def yJ2_getChars_ba4f3 : MethodName := ⟨RJ2, "getChars", "(II[B)I"⟩
abbrev cJ2_checkBoundsBeginEnd_d044e : ByteArray := prog_29_method_93_code
def yJ2_checkBoundsBeginEnd_d044e : MethodName := ⟨RJ2, "checkBoundsBeginEnd", "(II[B)V"⟩
abbrev cJ2_checkBoundsOffCount_d044e : ByteArray := prog_29_method_94_code
def yJ2_checkBoundsOffCount_d044e : MethodName := ⟨RJ2, "checkBoundsOffCount", "(II[B)V"⟩
def RJ10 : String := "java/lang/System"
def TJ10 : u_T := fun k => match k with
  | _ => ("", "", "", false)
def tyJ10 : Nat → FieldType := fun k => match k with
  | _ => .int
abbrev wsJ100 : List Cond := u_ws RJ10 TJ10 0
theorem nmJ10 : ∀ a, a < 0 → ∀ b, b < 0 → a ≠ b → (TJ10 a).2.1 ≠ (TJ10 b).2.1 := by decide +kernel
theorem tyJ10_ok : ∀ k, k < 0 → parseFieldDescriptor (TJ10 k).2.2.1 = some (tyJ10 k) := by decide +kernel
def RJxfd54e : String := "java/lang/constant/Constable"
def TJxfd54e : u_T := fun k => match k with
  | _ => ("", "", "", false)
def tyJxfd54e : Nat → FieldType := fun k => match k with
  | _ => .int
abbrev wsJxfd54e0 : List Cond := u_ws RJxfd54e TJxfd54e 0
theorem nmJxfd54e : ∀ a, a < 0 → ∀ b, b < 0 → a ≠ b → (TJxfd54e a).2.1 ≠ (TJxfd54e b).2.1 := by decide +kernel
theorem tyJxfd54e_ok : ∀ k, k < 0 → parseFieldDescriptor (TJxfd54e k).2.2.1 = some (tyJxfd54e k) := by decide +kernel
def RJx3cf43 : String := "java/lang/constant/ConstantDesc"
def TJx3cf43 : u_T := fun k => match k with
  | _ => ("", "", "", false)
def tyJx3cf43 : Nat → FieldType := fun k => match k with
  | _ => .int
abbrev wsJx3cf430 : List Cond := u_ws RJx3cf43 TJx3cf43 0
theorem nmJx3cf43 : ∀ a, a < 0 → ∀ b, b < 0 → a ≠ b → (TJx3cf43 a).2.1 ≠ (TJx3cf43 b).2.1 := by decide +kernel
theorem tyJx3cf43_ok : ∀ k, k < 0 → parseFieldDescriptor (TJx3cf43 k).2.2.1 = some (tyJx3cf43 k) := by decide +kernel
def RJ7 : String := "java/util/Arrays"
def TJ7 : u_T := fun k => match k with
  | _ => ("", "", "", false)
def tyJ7 : Nat → FieldType := fun k => match k with
  | _ => .int
abbrev wsJ70 : List Cond := u_ws RJ7 TJ7 0
theorem nmJ7 : ∀ a, a < 0 → ∀ b, b < 0 → a ≠ b → (TJ7 a).2.1 ≠ (TJ7 b).2.1 := by decide +kernel
theorem tyJ7_ok : ∀ k, k < 0 → parseFieldDescriptor (TJ7 k).2.2.1 = some (tyJ7 k) := by decide +kernel
abbrev cJ7_rangeCheck_23922 : ByteArray := prog_32_method_30_code
def yJ7_rangeCheck_23922 : MethodName := ⟨RJ7, "rangeCheck", "(III)V"⟩
abbrev cJ7_fill_53178 : ByteArray := prog_32_method_103_code
def yJ7_fill_53178 : MethodName := ⟨RJ7, "fill", "([II)V"⟩
abbrev cJ7_fill_fda19 : ByteArray := prog_32_method_104_code
def yJ7_fill_fda19 : MethodName := ⟨RJ7, "fill", "([IIII)V"⟩
abbrev cJ7_copyOf_9075b : ByteArray := prog_32_method_121_code
def yJ7_copyOf_9075b : MethodName := ⟨RJ7, "copyOf", "([BI)[B"⟩
abbrev cJ7_copyOf_59c91 : ByteArray := prog_32_method_123_code
def yJ7_copyOf_59c91 : MethodName := ⟨RJ7, "copyOf", "([II)[I"⟩
abbrev cJ7_copyOf_c38d5 : ByteArray := prog_32_method_124_code
def yJ7_copyOf_c38d5 : MethodName := ⟨RJ7, "copyOf", "([JI)[J"⟩
abbrev cJ7_checkLength_df160 : ByteArray := prog_32_method_131_code
def yJ7_checkLength_df160 : MethodName := ⟨RJ7, "checkLength", "(II)V"⟩
abbrev cJ7_copyOfRange_39247 : ByteArray := prog_32_method_132_code
def yJ7_copyOfRange_39247 : MethodName := ⟨RJ7, "copyOfRange", "([BII)[B"⟩
abbrev cJ7_copyOfRangeByte_39247 : ByteArray := prog_32_method_133_code
def yJ7_copyOfRangeByte_39247 : MethodName := ⟨RJ7, "copyOfRangeByte", "([BII)[B"⟩
def RJ8 : String := "jdk/internal/util/ArraysSupport"
def TJ8 : u_T := fun k => match k with
  | _ => ("", "", "", false)
def tyJ8 : Nat → FieldType := fun k => match k with
  | _ => .int
abbrev wsJ80 : List Cond := u_ws RJ8 TJ8 0
theorem nmJ8 : ∀ a, a < 0 → ∀ b, b < 0 → a ≠ b → (TJ8 a).2.1 ≠ (TJ8 b).2.1 := by decide +kernel
theorem tyJ8_ok : ∀ k, k < 0 → parseFieldDescriptor (TJ8 k).2.2.1 = some (tyJ8 k) := by decide +kernel
abbrev cJ8_newLength_cabcc : ByteArray := prog_33_method_27_code
def yJ8_newLength_cabcc : MethodName := ⟨RJ8, "newLength", "(III)I"⟩
abbrev cJ8_hugeLength_7cf53 : ByteArray := prog_33_method_28_code
def yJ8_hugeLength_7cf53 : MethodName := ⟨RJ8, "hugeLength", "(II)I"⟩
def RJ3 : String := "jdk/internal/util/Preconditions"
def TJ3 : u_T := fun k => match k with
  | _ => ("", "", "", false)
def tyJ3 : Nat → FieldType := fun k => match k with
  | _ => .int
abbrev wsJ30 : List Cond := u_ws RJ3 TJ3 0
theorem nmJ3 : ∀ a, a < 0 → ∀ b, b < 0 → a ≠ b → (TJ3 a).2.1 ≠ (TJ3 b).2.1 := by decide +kernel
theorem tyJ3_ok : ∀ k, k < 0 → parseFieldDescriptor (TJ3 k).2.2.1 = some (tyJ3 k) := by decide +kernel
abbrev cJ3_checkFromToIndex_8c36e : ByteArray := prog_34_method_12_code
def yJ3_checkFromToIndex_8c36e : MethodName := ⟨RJ3, "checkFromToIndex", "(IIILjava/util/function/BiFunction;)I"⟩
abbrev cJ3_checkFromIndexSize_8c36e : ByteArray := prog_34_method_13_code
def yJ3_checkFromIndexSize_8c36e : MethodName := ⟨RJ3, "checkFromIndexSize", "(IIILjava/util/function/BiFunction;)I"⟩
def RL : String := "LayoutPressLaw"
abbrev cL_text : ByteArray := method_3_code
def yL_text : MethodName := ⟨RL, "text", "(LLayoutPress;II[J)I"⟩
abbrev cL_remark : ByteArray := method_4_code
def yL_remark : MethodName := ⟨RL, "remark", "(LLayoutPress;II[J)I"⟩
abbrev cL_line : ByteArray := method_5_code
def yL_line : MethodName := ⟨RL, "line", "(LLayoutPress;[J)I"⟩
abbrev cL_soft : ByteArray := method_6_code
def yL_soft : MethodName := ⟨RL, "soft", "(LLayoutPress;[J)I"⟩
abbrev cL_hard : ByteArray := method_7_code
def yL_hard : MethodName := ⟨RL, "hard", "(LLayoutPress;[J)I"⟩
abbrev cL_tab : ByteArray := method_8_code
def yL_tab : MethodName := ⟨RL, "tab", "(LLayoutPress;I[J)I"⟩
abbrev cL_pair : ByteArray := method_9_code
def yL_pair : MethodName := ⟨RL, "pair", "(LLayoutPress;II[J)I"⟩
abbrev cL_nest : ByteArray := method_10_code
def yL_nest : MethodName := ⟨RL, "nest", "(LLayoutPress;II[J)I"⟩
abbrev cL_align : ByteArray := method_11_code
def yL_align : MethodName := ⟨RL, "align", "(LLayoutPress;I[J)I"⟩
abbrev cL_group : ByteArray := method_12_code
def yL_group : MethodName := ⟨RL, "group", "(LLayoutPress;I[J)I"⟩
abbrev cL_choice : ByteArray := method_13_code
def yL_choice : MethodName := ⟨RL, "choice", "(LLayoutPress;II[J)I"⟩
abbrev cL_flat : ByteArray := method_14_code
def yL_flat : MethodName := ⟨RL, "flat", "(LLayoutPress;I[J)I"⟩
abbrev cL_broken : ByteArray := method_15_code
def yL_broken : MethodName := ⟨RL, "broken", "(LLayoutPress;II[J)I"⟩
abbrev cL_price : ByteArray := method_16_code
def yL_price : MethodName := ⟨RL, "price", "(LLayoutPress;II[J)I"⟩
abbrev cL_keep : ByteArray := method_17_code
def yL_keep : MethodName := ⟨RL, "keep", "(LLayoutPress;II[J)I"⟩
abbrev cL_cell : ByteArray := method_18_code
def yL_cell : MethodName := ⟨RL, "cell", "(LLayoutPress;III[J)I"⟩
abbrev cL_size : ByteArray := method_19_code
def yL_size : MethodName := ⟨RL, "size", "(LLayoutPress;I[J)I"⟩
abbrev cL_layouts : ByteArray := method_20_code
def yL_layouts : MethodName := ⟨RL, "layouts", "(LLayoutPress;I[J)I"⟩
abbrev cL_print : ByteArray := method_21_code
def yL_print : MethodName := ⟨RL, "print", "(LLayoutPress;IIII[J)I"⟩
abbrev cL_printByAll : ByteArray := method_22_code
def yL_printByAll : MethodName := ⟨RL, "printByAll", "(LLayoutPress;IIII[J)I"⟩
abbrev cL_printGreedy : ByteArray := method_23_code
def yL_printGreedy : MethodName := ⟨RL, "printGreedy", "(LLayoutPress;IIII[J)I"⟩
abbrev cL_length : ByteArray := method_24_code
def yL_length : MethodName := ⟨RL, "length", "(LLayoutPress;I[J)I"⟩
abbrev cL_signAt : ByteArray := method_25_code
def yL_signAt : MethodName := ⟨RL, "signAt", "(LLayoutPress;II[J)I"⟩
abbrev cL_nodeAt : ByteArray := method_26_code
def yL_nodeAt : MethodName := ⟨RL, "nodeAt", "(LLayoutPress;II[J)I"⟩
abbrev cL_placeOf : ByteArray := method_27_code
def yL_placeOf : MethodName := ⟨RL, "placeOf", "(LLayoutPress;I[J)I"⟩
abbrev cL_wayAt : ByteArray := method_28_code
def yL_wayAt : MethodName := ⟨RL, "wayAt", "(LLayoutPress;I[J)I"⟩
abbrev cL_breakPages : ByteArray := method_29_code
def yL_breakPages : MethodName := ⟨RL, "breakPages", "(LLayoutPress;I[J)I"⟩
abbrev cL_pageOf : ByteArray := method_30_code
def yL_pageOf : MethodName := ⟨RL, "pageOf", "(LLayoutPress;I[J)I"⟩
abbrev cL_law : ByteArray := code
def yL_law : MethodName := ⟨RL, "law", "([I)Z"⟩
def wsJ7_fill_53178 : List Cond := .code yJ7_fill_53178 cJ7_fill_53178 4 none :: ([])
def wsX7_init : List Cond := .code yX7_init cX7_init 1 none :: ([.methodLink RX7 3 objectInit, .instanceMethod objectInit, .code objectInit ⟨#[0xb1]⟩ 1 none, .arrayClass .int, .fieldLink RX7 9 "LayoutPress$Sheet" "firsts" "[I", .fieldLink RX7 15 "LayoutPress$Sheet" "ends" "[I", .fieldLink RX7 18 "LayoutPress$Sheet" "cutCosts" "[I", .fieldLink RX7 21 "LayoutPress$Sheet" "starts" "[I", .classLink RX7 30 RX4, .fieldLink RX7 32 "LayoutPress$Sheet" "owners" "[LLayoutPress$Node;", .fieldLink RX7 36 "LayoutPress$Sheet" "ownerLines" "[I", .fieldLink RX7 39 "LayoutPress$Sheet" "ownerColumns" "[I", .methodLink RX7 24 yJ7_fill_53178, .static yJ7_fill_53178, .initialized RJ7, .code yJ7_fill_53178 cJ7_fill_53178 4 none] ++ wsX70)
def wsX1_init_r1 : List Cond := [Cond.methodLink RX1 3 objectInit, Cond.instanceMethod objectInit, Cond.code objectInit ⟨#[0xb1]⟩ 1 none, Cond.fieldLink RX1 9 "LayoutPress$Hand" "terms" "LLayoutPress$Terms;", Cond.classLink RX1 15 RX7, Cond.instantiable RX7 15, Cond.initialized RX7, Cond.fieldLink RX1 18 "LayoutPress$Hand" "sheet" "LLayoutPress$Sheet;", Cond.methodLink RX1 17 yX7_init, Cond.instanceMethod yX7_init, Cond.code yX7_init cX7_init 1 none, Cond.methodLink RX7 3 objectInit, Cond.arrayClass .int, Cond.fieldLink RX7 9 "LayoutPress$Sheet" "firsts" "[I", Cond.fieldLink RX7 15 "LayoutPress$Sheet" "ends" "[I", Cond.fieldLink RX7 18 "LayoutPress$Sheet" "cutCosts" "[I", Cond.fieldLink RX7 21 "LayoutPress$Sheet" "starts" "[I", Cond.classLink RX7 30 RX4, Cond.fieldLink RX7 32 "LayoutPress$Sheet" "owners" "[LLayoutPress$Node;", Cond.fieldLink RX7 36 "LayoutPress$Sheet" "ownerLines" "[I", Cond.fieldLink RX7 39 "LayoutPress$Sheet" "ownerColumns" "[I", Cond.methodLink RX7 24 yJ7_fill_53178, Cond.static yJ7_fill_53178, Cond.initialized RJ7]
def wsX1_init_r2 : List Cond := [Cond.code yJ7_fill_53178 cJ7_fill_53178 4 none]
def wsX1_init : List Cond := .code yX1_init cX1_init 2 none :: ((wsX1_init_r1 ++ wsX1_init_r2) ++ wsX10 ++ wsX70)
def wsX3_endsLine : List Cond := .code yX3_endsLine cX3_endsLine 1 (some .boolean) :: ([.fieldLink RX3 10 "LayoutPress$Kind" "LINE" "LLayoutPress$Kind;", .fieldLink RX3 13 "LayoutPress$Kind" "SOFT" "LLayoutPress$Kind;", .fieldLink RX3 16 "LayoutPress$Kind" "HARD" "LLayoutPress$Kind;"])
def wsX2_init : List Cond := .code yX2_init cX2_init 1 none :: ([.methodLink RX2 3 objectInit, .instanceMethod objectInit, .code objectInit ⟨#[0xb1]⟩ 1 none, .arrayClass .int, .fieldLink RX2 11 "LayoutPress$Held" "places" "[I", .fieldLink RX2 15 "LayoutPress$Held" "ways" "[I", .fieldLink RX2 18 "LayoutPress$Held" "order" "[I", .fieldLink RX2 21 "LayoutPress$Held" "begins" "[I"] ++ wsX20)
def wsX4_traitsOfLeaf : List Cond := .code yX4_traitsOfLeaf cX4_traitsOfLeaf 2 (some .int) :: ([.fieldLink RX4 69 "LayoutPress$Kind" "TAB" "LLayoutPress$Kind;", .methodLink RX4 41 yX3_endsLine, .instanceMethod yX3_endsLine, .selects RX3 yX3_endsLine yX3_endsLine, .initialized RX3, .code yX3_endsLine cX3_endsLine 1 (some .boolean), .fieldLink RX3 10 "LayoutPress$Kind" "LINE" "LLayoutPress$Kind;", .fieldLink RX3 13 "LayoutPress$Kind" "SOFT" "LLayoutPress$Kind;", .fieldLink RX3 16 "LayoutPress$Kind" "HARD" "LLayoutPress$Kind;"])
def wsX4_init_r1 : List Cond := [Cond.methodLink RX4 3 objectInit, Cond.instanceMethod objectInit, Cond.code objectInit ⟨#[0xb1]⟩ 1 none, Cond.fieldLink RX4 9 "LayoutPress$Node" "kind" "LLayoutPress$Kind;", Cond.fieldLink RX4 15 "LayoutPress$Node" "value" "I", Cond.fieldLink RX4 19 "LayoutPress$Node" "first" "LLayoutPress$Node;", Cond.fieldLink RX4 23 "LayoutPress$Node" "second" "LLayoutPress$Node;", Cond.fieldLink RX4 26 "LayoutPress$Node" "leaves" "I", Cond.fieldLink RX4 29 "LayoutPress$Node" "flatWidth" "I", Cond.fieldLink RX4 38 "LayoutPress$Node" "barred" "Z", Cond.fieldLink RX4 45 "LayoutPress$Node" "indents" "Z", Cond.fieldLink RX4 52 "LayoutPress$Node" "traits" "I", Cond.fieldLink RX4 55 "LayoutPress$Node" "layoutCount" "I", Cond.fieldLink RX4 58 "LayoutPress$Node" "flatLayoutCount" "I", Cond.methodLink RX4 41 yX3_endsLine, Cond.instanceMethod yX3_endsLine, Cond.selects RX3 yX3_endsLine yX3_endsLine, Cond.initialized RX3, Cond.code yX3_endsLine cX3_endsLine 1 (some .boolean), Cond.fieldLink RX3 10 "LayoutPress$Kind" "LINE" "LLayoutPress$Kind;", Cond.fieldLink RX3 13 "LayoutPress$Kind" "SOFT" "LLayoutPress$Kind;", Cond.fieldLink RX3 16 "LayoutPress$Kind" "HARD" "LLayoutPress$Kind;", Cond.methodLink RX4 48 yX4_traitsOfLeaf, Cond.static yX4_traitsOfLeaf]
def wsX4_init_r2 : List Cond := [Cond.initialized RX4, Cond.code yX4_traitsOfLeaf cX4_traitsOfLeaf 2 (some .int), Cond.fieldLink RX4 69 "LayoutPress$Kind" "TAB" "LLayoutPress$Kind;"]
def wsX4_init : List Cond := .code yX4_init cX4_init 4 none :: ((wsX4_init_r1 ++ wsX4_init_r2) ++ wsX40)
def wsX4_bit : List Cond := .code yX4_bit cX4_bit 1 (some .long) :: ([.fieldLink RX4 116 "LayoutPress$Node" "number" "I"] ++ wsX40)
def wsX4_take : List Cond := .code yX4_take cX4_take 2 none :: ([.fieldLink RX4 116 "LayoutPress$Node" "number" "I", .fieldLink RX4 81 "LayoutPress$Node" "within" "J", .methodLink RX4 119 yX4_bit, .instanceMethod yX4_bit, .selects RX4 yX4_bit yX4_bit, .initialized RX4, .code yX4_bit cX4_bit 1 (some .long)] ++ wsX40)
def wsX5_init : List Cond := .code yX5_init cX5_init 1 none :: ([.methodLink RX5 3 objectInit, .instanceMethod objectInit, .code objectInit ⟨#[0xb1]⟩ 1 none, .arrayClass .int, .fieldLink RX5 9 "LayoutPress$Pages" "pageOfLine" "[I", .fieldLink RX5 15 "LayoutPress$Pages" "cost" "[I", .fieldLink RX5 18 "LayoutPress$Pages" "count" "[I", .fieldLink RX5 21 "LayoutPress$Pages" "firstHeight" "[I"] ++ wsX50)
def wsX8_init : List Cond := .code yX8_init cX8_init 2 none :: ([.methodLink RX8 3 objectInit, .instanceMethod objectInit, .code objectInit ⟨#[0xb1]⟩ 1 none, .fieldLink RX8 9 "LayoutPress$States" "held" "LLayoutPress$Held;", .arrayClass .int, .fieldLink RX8 15 "LayoutPress$States" "around" "[I", .fieldLink RX8 19 "LayoutPress$States" "column" "[I", .fieldLink RX8 22 "LayoutPress$States" "first" "[I", .fieldLink RX8 25 "LayoutPress$States" "hasRemark" "[I", .arrayClass .long, .fieldLink RX8 28 "LayoutPress$States" "paid" "[J", .fieldLink RX8 32 "LayoutPress$States" "weight" "[J", .fieldLink RX8 35 "LayoutPress$States" "ways" "[I", .fieldLink RX8 38 "LayoutPress$States" "told" "[I", .fieldLink RX8 41 "LayoutPress$States" "floor" "[J", .fieldLink RX8 44 "LayoutPress$States" "link" "[I", .fieldLink RX8 47 "LayoutPress$States" "head" "[I", .fieldLink RX8 50 "LayoutPress$States" "slots" "[I", .fieldLink RX8 53 "LayoutPress$States" "slotCount" "I"] ++ wsX80)
def wsX6_init_r1 : List Cond := [Cond.methodLink RX6 3 objectInit, Cond.instanceMethod objectInit, Cond.code objectInit ⟨#[0xb1]⟩ 1 none, Cond.fieldLink RX6 9 "LayoutPress$Search" "terms" "LLayoutPress$Terms;", Cond.classLink RX6 15 RX2, Cond.instantiable RX2 6, Cond.initialized RX2, Cond.fieldLink RX6 18 "LayoutPress$Search" "held" "LLayoutPress$Held;", Cond.classLink RX6 22 RX8, Cond.instantiable RX8 18, Cond.initialized RX8, Cond.fieldLink RX6 27 "LayoutPress$Search" "states" "LLayoutPress$States;", Cond.methodLink RX6 17 yX2_init, Cond.instanceMethod yX2_init, Cond.code yX2_init cX2_init 1 none, Cond.methodLink RX2 3 objectInit, Cond.arrayClass .int, Cond.fieldLink RX2 11 "LayoutPress$Held" "places" "[I", Cond.fieldLink RX2 15 "LayoutPress$Held" "ways" "[I", Cond.fieldLink RX2 18 "LayoutPress$Held" "order" "[I", Cond.fieldLink RX2 21 "LayoutPress$Held" "begins" "[I", Cond.methodLink RX6 24 yX8_init, Cond.instanceMethod yX8_init, Cond.code yX8_init cX8_init 2 none]
def wsX6_init_r2 : List Cond := [Cond.methodLink RX8 3 objectInit, Cond.fieldLink RX8 9 "LayoutPress$States" "held" "LLayoutPress$Held;", Cond.fieldLink RX8 15 "LayoutPress$States" "around" "[I", Cond.fieldLink RX8 19 "LayoutPress$States" "column" "[I", Cond.fieldLink RX8 22 "LayoutPress$States" "first" "[I", Cond.fieldLink RX8 25 "LayoutPress$States" "hasRemark" "[I", Cond.arrayClass .long, Cond.fieldLink RX8 28 "LayoutPress$States" "paid" "[J", Cond.fieldLink RX8 32 "LayoutPress$States" "weight" "[J", Cond.fieldLink RX8 35 "LayoutPress$States" "ways" "[I", Cond.fieldLink RX8 38 "LayoutPress$States" "told" "[I", Cond.fieldLink RX8 41 "LayoutPress$States" "floor" "[J", Cond.fieldLink RX8 44 "LayoutPress$States" "link" "[I", Cond.fieldLink RX8 47 "LayoutPress$States" "head" "[I", Cond.fieldLink RX8 50 "LayoutPress$States" "slots" "[I", Cond.fieldLink RX8 53 "LayoutPress$States" "slotCount" "I"]
def wsX6_init : List Cond := .code yX6_init cX6_init 2 none :: ((wsX6_init_r1 ++ wsX6_init_r2) ++ wsX60 ++ wsX20 ++ wsX80)
def wsX9_init : List Cond := .code yX9_init cX9_init 1 none :: ([.methodLink RX9 3 objectInit, .instanceMethod objectInit, .code objectInit ⟨#[0xb1]⟩ 1 none, .arrayClass .int, .fieldLink RX9 9 "LayoutPress$Terms" "widest" "[I"] ++ wsX90)
def wsX10_init_r1 : List Cond := [Cond.methodLink RX10 3 objectInit, Cond.instanceMethod objectInit, Cond.code objectInit ⟨#[0xb1]⟩ 1 none, Cond.classLink RX10 9 RX4, Cond.fieldLink RX10 11 "LayoutPress" "made" "[LLayoutPress$Node;", Cond.fieldLink RX10 15 "LayoutPress" "madeCount" "I", Cond.classLink RX10 19 RX9, Cond.instantiable RX9 4, Cond.initialized RX9, Cond.fieldLink RX10 22 "LayoutPress" "terms" "LLayoutPress$Terms;", Cond.classLink RX10 26 RX6, Cond.instantiable RX6 6, Cond.initialized RX6, Cond.fieldLink RX10 31 "LayoutPress" "search" "LLayoutPress$Search;", Cond.classLink RX10 35 RX1, Cond.instantiable RX1 7, Cond.initialized RX1, Cond.fieldLink RX10 38 "LayoutPress" "hand" "LLayoutPress$Hand;", Cond.classLink RX10 42 RX5, Cond.instantiable RX5 5, Cond.initialized RX5, Cond.fieldLink RX10 45 "LayoutPress" "pages" "LLayoutPress$Pages;", Cond.classLink RX10 49 RX7, Cond.instantiable RX7 15]
def wsX10_init_r2 : List Cond := [Cond.initialized RX7, Cond.fieldLink RX10 52 "LayoutPress" "printed" "LLayoutPress$Sheet;", Cond.methodLink RX10 21 yX9_init, Cond.instanceMethod yX9_init, Cond.code yX9_init cX9_init 1 none, Cond.methodLink RX9 3 objectInit, Cond.arrayClass .int, Cond.fieldLink RX9 9 "LayoutPress$Terms" "widest" "[I", Cond.methodLink RX10 28 yX6_init, Cond.instanceMethod yX6_init, Cond.code yX6_init cX6_init 2 none, Cond.methodLink RX6 3 objectInit, Cond.fieldLink RX6 9 "LayoutPress$Search" "terms" "LLayoutPress$Terms;", Cond.classLink RX6 15 RX2, Cond.instantiable RX2 6, Cond.initialized RX2, Cond.fieldLink RX6 18 "LayoutPress$Search" "held" "LLayoutPress$Held;", Cond.classLink RX6 22 RX8, Cond.instantiable RX8 18, Cond.initialized RX8, Cond.fieldLink RX6 27 "LayoutPress$Search" "states" "LLayoutPress$States;", Cond.methodLink RX6 17 yX2_init, Cond.instanceMethod yX2_init, Cond.code yX2_init cX2_init 1 none]
def wsX10_init_r3 : List Cond := [Cond.methodLink RX2 3 objectInit, Cond.fieldLink RX2 11 "LayoutPress$Held" "places" "[I", Cond.fieldLink RX2 15 "LayoutPress$Held" "ways" "[I", Cond.fieldLink RX2 18 "LayoutPress$Held" "order" "[I", Cond.fieldLink RX2 21 "LayoutPress$Held" "begins" "[I", Cond.methodLink RX6 24 yX8_init, Cond.instanceMethod yX8_init, Cond.code yX8_init cX8_init 2 none, Cond.methodLink RX8 3 objectInit, Cond.fieldLink RX8 9 "LayoutPress$States" "held" "LLayoutPress$Held;", Cond.fieldLink RX8 15 "LayoutPress$States" "around" "[I", Cond.fieldLink RX8 19 "LayoutPress$States" "column" "[I", Cond.fieldLink RX8 22 "LayoutPress$States" "first" "[I", Cond.fieldLink RX8 25 "LayoutPress$States" "hasRemark" "[I", Cond.arrayClass .long, Cond.fieldLink RX8 28 "LayoutPress$States" "paid" "[J", Cond.fieldLink RX8 32 "LayoutPress$States" "weight" "[J", Cond.fieldLink RX8 35 "LayoutPress$States" "ways" "[I", Cond.fieldLink RX8 38 "LayoutPress$States" "told" "[I", Cond.fieldLink RX8 41 "LayoutPress$States" "floor" "[J", Cond.fieldLink RX8 44 "LayoutPress$States" "link" "[I", Cond.fieldLink RX8 47 "LayoutPress$States" "head" "[I", Cond.fieldLink RX8 50 "LayoutPress$States" "slots" "[I", Cond.fieldLink RX8 53 "LayoutPress$States" "slotCount" "I"]
def wsX10_init_r4 : List Cond := [Cond.methodLink RX10 37 yX1_init, Cond.instanceMethod yX1_init, Cond.code yX1_init cX1_init 2 none, Cond.methodLink RX1 3 objectInit, Cond.fieldLink RX1 9 "LayoutPress$Hand" "terms" "LLayoutPress$Terms;", Cond.classLink RX1 15 RX7, Cond.fieldLink RX1 18 "LayoutPress$Hand" "sheet" "LLayoutPress$Sheet;", Cond.methodLink RX1 17 yX7_init, Cond.instanceMethod yX7_init, Cond.code yX7_init cX7_init 1 none, Cond.methodLink RX7 3 objectInit, Cond.fieldLink RX7 9 "LayoutPress$Sheet" "firsts" "[I", Cond.fieldLink RX7 15 "LayoutPress$Sheet" "ends" "[I", Cond.fieldLink RX7 18 "LayoutPress$Sheet" "cutCosts" "[I", Cond.fieldLink RX7 21 "LayoutPress$Sheet" "starts" "[I", Cond.classLink RX7 30 RX4, Cond.fieldLink RX7 32 "LayoutPress$Sheet" "owners" "[LLayoutPress$Node;", Cond.fieldLink RX7 36 "LayoutPress$Sheet" "ownerLines" "[I", Cond.fieldLink RX7 39 "LayoutPress$Sheet" "ownerColumns" "[I", Cond.methodLink RX7 24 yJ7_fill_53178, Cond.static yJ7_fill_53178, Cond.initialized RJ7, Cond.code yJ7_fill_53178 cJ7_fill_53178 4 none, Cond.methodLink RX10 44 yX5_init]
def wsX10_init_r5 : List Cond := [Cond.instanceMethod yX5_init, Cond.code yX5_init cX5_init 1 none, Cond.methodLink RX5 3 objectInit, Cond.fieldLink RX5 9 "LayoutPress$Pages" "pageOfLine" "[I", Cond.fieldLink RX5 15 "LayoutPress$Pages" "cost" "[I", Cond.fieldLink RX5 18 "LayoutPress$Pages" "count" "[I", Cond.fieldLink RX5 21 "LayoutPress$Pages" "firstHeight" "[I", Cond.methodLink RX10 51 yX7_init]
def wsX10_init : List Cond := .code yX10_init cX10_init 1 none :: ((wsX10_init_r1 ++ (wsX10_init_r2 ++ (wsX10_init_r3 ++ (wsX10_init_r4 ++ wsX10_init_r5)))) ++ wsX100 ++ wsX90 ++ wsX60 ++ wsX10 ++ wsX50 ++ wsX70 ++ wsX20 ++ wsX80)
def wsX10_checkRange : List Cond := .code yX10_checkRange cX10_checkRange 3 none :: ([.classLink RX10 234 "java/lang/IllegalArgumentException", .initialized "java/lang/IllegalArgumentException"] ++ (vx_atS RX10 238 "java/lang/IllegalArgumentException" ["java/lang/RuntimeException", "java/lang/Exception"]).filter goodWord)
def wsX10_add : List Cond := .code yX10_add cX10_add 2 (some .int) :: ([.classLink RX10 126 "java/lang/IllegalStateException", .initialized "java/lang/IllegalStateException", .fieldLink RX10 15 "LayoutPress" "madeCount" "I", .fieldLink RX10 11 "LayoutPress" "made" "[LLayoutPress$Node;", .methodLink RX10 252 yX4_take, .instanceMethod yX4_take, .selects RX4 yX4_take yX4_take, .initialized RX4, .code yX4_take cX4_take 2 none, .fieldLink RX4 116 "LayoutPress$Node" "number" "I", .fieldLink RX4 81 "LayoutPress$Node" "within" "J", .methodLink RX4 119 yX4_bit, .instanceMethod yX4_bit, .selects RX4 yX4_bit yX4_bit, .code yX4_bit cX4_bit 1 (some .long)] ++ wsX100 ++ wsX40 ++ (vx_atS RX10 130 "java/lang/IllegalStateException" ["java/lang/RuntimeException", "java/lang/Exception"]).filter goodWord)
def wsX10_text_r1 : List Cond := [Cond.classLink RX10 9 RX4, Cond.instantiable RX4 15, Cond.initialized RX4, Cond.fieldLink RX10 60 "LayoutPress$Kind" "TEXT" "LLayoutPress$Kind;", Cond.methodLink RX10 56 yX10_checkRange, Cond.static yX10_checkRange, Cond.initialized RX10, Cond.code yX10_checkRange cX10_checkRange 3 none, Cond.classLink RX10 234 "java/lang/IllegalArgumentException", Cond.initialized "java/lang/IllegalArgumentException", Cond.methodLink RX10 66 yX4_init, Cond.instanceMethod yX4_init, Cond.code yX4_init cX4_init 4 none, Cond.methodLink RX4 3 objectInit, Cond.instanceMethod objectInit, Cond.code objectInit ⟨#[0xb1]⟩ 1 none, Cond.fieldLink RX4 9 "LayoutPress$Node" "kind" "LLayoutPress$Kind;", Cond.fieldLink RX4 15 "LayoutPress$Node" "value" "I", Cond.fieldLink RX4 19 "LayoutPress$Node" "first" "LLayoutPress$Node;", Cond.fieldLink RX4 23 "LayoutPress$Node" "second" "LLayoutPress$Node;", Cond.fieldLink RX4 26 "LayoutPress$Node" "leaves" "I", Cond.fieldLink RX4 29 "LayoutPress$Node" "flatWidth" "I", Cond.fieldLink RX4 38 "LayoutPress$Node" "barred" "Z", Cond.fieldLink RX4 45 "LayoutPress$Node" "indents" "Z"]
def wsX10_text_r2 : List Cond := [Cond.fieldLink RX4 52 "LayoutPress$Node" "traits" "I", Cond.fieldLink RX4 55 "LayoutPress$Node" "layoutCount" "I", Cond.fieldLink RX4 58 "LayoutPress$Node" "flatLayoutCount" "I", Cond.methodLink RX4 41 yX3_endsLine, Cond.instanceMethod yX3_endsLine, Cond.selects RX3 yX3_endsLine yX3_endsLine, Cond.initialized RX3, Cond.code yX3_endsLine cX3_endsLine 1 (some .boolean), Cond.fieldLink RX3 10 "LayoutPress$Kind" "LINE" "LLayoutPress$Kind;", Cond.fieldLink RX3 13 "LayoutPress$Kind" "SOFT" "LLayoutPress$Kind;", Cond.fieldLink RX3 16 "LayoutPress$Kind" "HARD" "LLayoutPress$Kind;", Cond.methodLink RX4 48 yX4_traitsOfLeaf, Cond.static yX4_traitsOfLeaf, Cond.code yX4_traitsOfLeaf cX4_traitsOfLeaf 2 (some .int), Cond.fieldLink RX4 69 "LayoutPress$Kind" "TAB" "LLayoutPress$Kind;", Cond.methodLink RX10 69 yX10_add, Cond.instanceMethod yX10_add, Cond.selects RX10 yX10_add yX10_add, Cond.code yX10_add cX10_add 2 (some .int), Cond.classLink RX10 126 "java/lang/IllegalStateException", Cond.initialized "java/lang/IllegalStateException", Cond.fieldLink RX10 15 "LayoutPress" "madeCount" "I", Cond.fieldLink RX10 11 "LayoutPress" "made" "[LLayoutPress$Node;", Cond.methodLink RX10 252 yX4_take]
def wsX10_text_r3 : List Cond := [Cond.instanceMethod yX4_take, Cond.selects RX4 yX4_take yX4_take, Cond.code yX4_take cX4_take 2 none, Cond.fieldLink RX4 116 "LayoutPress$Node" "number" "I", Cond.fieldLink RX4 81 "LayoutPress$Node" "within" "J", Cond.methodLink RX4 119 yX4_bit, Cond.instanceMethod yX4_bit, Cond.selects RX4 yX4_bit yX4_bit, Cond.code yX4_bit cX4_bit 1 (some .long)]
def wsX10_text : List Cond := .code yX10_text cX10_text 3 (some .int) :: ((wsX10_text_r1 ++ (wsX10_text_r2 ++ wsX10_text_r3)) ++ wsX40 ++ wsX100 ++ (vx_atS RX10 238 "java/lang/IllegalArgumentException" ["java/lang/RuntimeException", "java/lang/Exception"]).filter goodWord ++ (vx_atS RX10 130 "java/lang/IllegalStateException" ["java/lang/RuntimeException", "java/lang/Exception"]).filter goodWord)
def wsX10_remark_r1 : List Cond := [Cond.classLink RX10 9 RX4, Cond.instantiable RX4 15, Cond.initialized RX4, Cond.fieldLink RX10 73 "LayoutPress$Kind" "REMARK" "LLayoutPress$Kind;", Cond.methodLink RX10 56 yX10_checkRange, Cond.static yX10_checkRange, Cond.initialized RX10, Cond.code yX10_checkRange cX10_checkRange 3 none, Cond.classLink RX10 234 "java/lang/IllegalArgumentException", Cond.initialized "java/lang/IllegalArgumentException", Cond.methodLink RX10 66 yX4_init, Cond.instanceMethod yX4_init, Cond.code yX4_init cX4_init 4 none, Cond.methodLink RX4 3 objectInit, Cond.instanceMethod objectInit, Cond.code objectInit ⟨#[0xb1]⟩ 1 none, Cond.fieldLink RX4 9 "LayoutPress$Node" "kind" "LLayoutPress$Kind;", Cond.fieldLink RX4 15 "LayoutPress$Node" "value" "I", Cond.fieldLink RX4 19 "LayoutPress$Node" "first" "LLayoutPress$Node;", Cond.fieldLink RX4 23 "LayoutPress$Node" "second" "LLayoutPress$Node;", Cond.fieldLink RX4 26 "LayoutPress$Node" "leaves" "I", Cond.fieldLink RX4 29 "LayoutPress$Node" "flatWidth" "I", Cond.fieldLink RX4 38 "LayoutPress$Node" "barred" "Z", Cond.fieldLink RX4 45 "LayoutPress$Node" "indents" "Z"]
def wsX10_remark_r2 : List Cond := [Cond.fieldLink RX4 52 "LayoutPress$Node" "traits" "I", Cond.fieldLink RX4 55 "LayoutPress$Node" "layoutCount" "I", Cond.fieldLink RX4 58 "LayoutPress$Node" "flatLayoutCount" "I", Cond.methodLink RX4 41 yX3_endsLine, Cond.instanceMethod yX3_endsLine, Cond.selects RX3 yX3_endsLine yX3_endsLine, Cond.initialized RX3, Cond.code yX3_endsLine cX3_endsLine 1 (some .boolean), Cond.fieldLink RX3 10 "LayoutPress$Kind" "LINE" "LLayoutPress$Kind;", Cond.fieldLink RX3 13 "LayoutPress$Kind" "SOFT" "LLayoutPress$Kind;", Cond.fieldLink RX3 16 "LayoutPress$Kind" "HARD" "LLayoutPress$Kind;", Cond.methodLink RX4 48 yX4_traitsOfLeaf, Cond.static yX4_traitsOfLeaf, Cond.code yX4_traitsOfLeaf cX4_traitsOfLeaf 2 (some .int), Cond.fieldLink RX4 69 "LayoutPress$Kind" "TAB" "LLayoutPress$Kind;", Cond.methodLink RX10 69 yX10_add, Cond.instanceMethod yX10_add, Cond.selects RX10 yX10_add yX10_add, Cond.code yX10_add cX10_add 2 (some .int), Cond.classLink RX10 126 "java/lang/IllegalStateException", Cond.initialized "java/lang/IllegalStateException", Cond.fieldLink RX10 15 "LayoutPress" "madeCount" "I", Cond.fieldLink RX10 11 "LayoutPress" "made" "[LLayoutPress$Node;", Cond.methodLink RX10 252 yX4_take]
def wsX10_remark_r3 : List Cond := [Cond.instanceMethod yX4_take, Cond.selects RX4 yX4_take yX4_take, Cond.code yX4_take cX4_take 2 none, Cond.fieldLink RX4 116 "LayoutPress$Node" "number" "I", Cond.fieldLink RX4 81 "LayoutPress$Node" "within" "J", Cond.methodLink RX4 119 yX4_bit, Cond.instanceMethod yX4_bit, Cond.selects RX4 yX4_bit yX4_bit, Cond.code yX4_bit cX4_bit 1 (some .long)]
def wsX10_remark : List Cond := .code yX10_remark cX10_remark 3 (some .int) :: ((wsX10_remark_r1 ++ (wsX10_remark_r2 ++ wsX10_remark_r3)) ++ wsX40 ++ wsX100 ++ (vx_atS RX10 238 "java/lang/IllegalArgumentException" ["java/lang/RuntimeException", "java/lang/Exception"]).filter goodWord ++ (vx_atS RX10 130 "java/lang/IllegalStateException" ["java/lang/RuntimeException", "java/lang/Exception"]).filter goodWord)
def wsX10_line_r1 : List Cond := [Cond.classLink RX10 9 RX4, Cond.instantiable RX4 15, Cond.initialized RX4, Cond.fieldLink RX10 76 "LayoutPress$Kind" "LINE" "LLayoutPress$Kind;", Cond.methodLink RX10 66 yX4_init, Cond.instanceMethod yX4_init, Cond.code yX4_init cX4_init 4 none, Cond.methodLink RX4 3 objectInit, Cond.instanceMethod objectInit, Cond.code objectInit ⟨#[0xb1]⟩ 1 none, Cond.fieldLink RX4 9 "LayoutPress$Node" "kind" "LLayoutPress$Kind;", Cond.fieldLink RX4 15 "LayoutPress$Node" "value" "I", Cond.fieldLink RX4 19 "LayoutPress$Node" "first" "LLayoutPress$Node;", Cond.fieldLink RX4 23 "LayoutPress$Node" "second" "LLayoutPress$Node;", Cond.fieldLink RX4 26 "LayoutPress$Node" "leaves" "I", Cond.fieldLink RX4 29 "LayoutPress$Node" "flatWidth" "I", Cond.fieldLink RX4 38 "LayoutPress$Node" "barred" "Z", Cond.fieldLink RX4 45 "LayoutPress$Node" "indents" "Z", Cond.fieldLink RX4 52 "LayoutPress$Node" "traits" "I", Cond.fieldLink RX4 55 "LayoutPress$Node" "layoutCount" "I", Cond.fieldLink RX4 58 "LayoutPress$Node" "flatLayoutCount" "I", Cond.methodLink RX4 41 yX3_endsLine, Cond.instanceMethod yX3_endsLine, Cond.selects RX3 yX3_endsLine yX3_endsLine]
def wsX10_line_r2 : List Cond := [Cond.initialized RX3, Cond.code yX3_endsLine cX3_endsLine 1 (some .boolean), Cond.fieldLink RX3 10 "LayoutPress$Kind" "LINE" "LLayoutPress$Kind;", Cond.fieldLink RX3 13 "LayoutPress$Kind" "SOFT" "LLayoutPress$Kind;", Cond.fieldLink RX3 16 "LayoutPress$Kind" "HARD" "LLayoutPress$Kind;", Cond.methodLink RX4 48 yX4_traitsOfLeaf, Cond.static yX4_traitsOfLeaf, Cond.code yX4_traitsOfLeaf cX4_traitsOfLeaf 2 (some .int), Cond.fieldLink RX4 69 "LayoutPress$Kind" "TAB" "LLayoutPress$Kind;", Cond.methodLink RX10 69 yX10_add, Cond.instanceMethod yX10_add, Cond.selects RX10 yX10_add yX10_add, Cond.initialized RX10, Cond.code yX10_add cX10_add 2 (some .int), Cond.classLink RX10 126 "java/lang/IllegalStateException", Cond.initialized "java/lang/IllegalStateException", Cond.fieldLink RX10 15 "LayoutPress" "madeCount" "I", Cond.fieldLink RX10 11 "LayoutPress" "made" "[LLayoutPress$Node;", Cond.methodLink RX10 252 yX4_take, Cond.instanceMethod yX4_take, Cond.selects RX4 yX4_take yX4_take, Cond.code yX4_take cX4_take 2 none, Cond.fieldLink RX4 116 "LayoutPress$Node" "number" "I", Cond.fieldLink RX4 81 "LayoutPress$Node" "within" "J"]
def wsX10_line_r3 : List Cond := [Cond.methodLink RX4 119 yX4_bit, Cond.instanceMethod yX4_bit, Cond.selects RX4 yX4_bit yX4_bit, Cond.code yX4_bit cX4_bit 1 (some .long)]
def wsX10_line : List Cond := .code yX10_line cX10_line 1 (some .int) :: ((wsX10_line_r1 ++ (wsX10_line_r2 ++ wsX10_line_r3)) ++ wsX40 ++ wsX100 ++ (vx_atS RX10 130 "java/lang/IllegalStateException" ["java/lang/RuntimeException", "java/lang/Exception"]).filter goodWord)
def wsX10_soft_r1 : List Cond := [Cond.classLink RX10 9 RX4, Cond.instantiable RX4 15, Cond.initialized RX4, Cond.fieldLink RX10 79 "LayoutPress$Kind" "SOFT" "LLayoutPress$Kind;", Cond.methodLink RX10 66 yX4_init, Cond.instanceMethod yX4_init, Cond.code yX4_init cX4_init 4 none, Cond.methodLink RX4 3 objectInit, Cond.instanceMethod objectInit, Cond.code objectInit ⟨#[0xb1]⟩ 1 none, Cond.fieldLink RX4 9 "LayoutPress$Node" "kind" "LLayoutPress$Kind;", Cond.fieldLink RX4 15 "LayoutPress$Node" "value" "I", Cond.fieldLink RX4 19 "LayoutPress$Node" "first" "LLayoutPress$Node;", Cond.fieldLink RX4 23 "LayoutPress$Node" "second" "LLayoutPress$Node;", Cond.fieldLink RX4 26 "LayoutPress$Node" "leaves" "I", Cond.fieldLink RX4 29 "LayoutPress$Node" "flatWidth" "I", Cond.fieldLink RX4 38 "LayoutPress$Node" "barred" "Z", Cond.fieldLink RX4 45 "LayoutPress$Node" "indents" "Z", Cond.fieldLink RX4 52 "LayoutPress$Node" "traits" "I", Cond.fieldLink RX4 55 "LayoutPress$Node" "layoutCount" "I", Cond.fieldLink RX4 58 "LayoutPress$Node" "flatLayoutCount" "I", Cond.methodLink RX4 41 yX3_endsLine, Cond.instanceMethod yX3_endsLine, Cond.selects RX3 yX3_endsLine yX3_endsLine]
def wsX10_soft_r2 : List Cond := [Cond.initialized RX3, Cond.code yX3_endsLine cX3_endsLine 1 (some .boolean), Cond.fieldLink RX3 10 "LayoutPress$Kind" "LINE" "LLayoutPress$Kind;", Cond.fieldLink RX3 13 "LayoutPress$Kind" "SOFT" "LLayoutPress$Kind;", Cond.fieldLink RX3 16 "LayoutPress$Kind" "HARD" "LLayoutPress$Kind;", Cond.methodLink RX4 48 yX4_traitsOfLeaf, Cond.static yX4_traitsOfLeaf, Cond.code yX4_traitsOfLeaf cX4_traitsOfLeaf 2 (some .int), Cond.fieldLink RX4 69 "LayoutPress$Kind" "TAB" "LLayoutPress$Kind;", Cond.methodLink RX10 69 yX10_add, Cond.instanceMethod yX10_add, Cond.selects RX10 yX10_add yX10_add, Cond.initialized RX10, Cond.code yX10_add cX10_add 2 (some .int), Cond.classLink RX10 126 "java/lang/IllegalStateException", Cond.initialized "java/lang/IllegalStateException", Cond.fieldLink RX10 15 "LayoutPress" "madeCount" "I", Cond.fieldLink RX10 11 "LayoutPress" "made" "[LLayoutPress$Node;", Cond.methodLink RX10 252 yX4_take, Cond.instanceMethod yX4_take, Cond.selects RX4 yX4_take yX4_take, Cond.code yX4_take cX4_take 2 none, Cond.fieldLink RX4 116 "LayoutPress$Node" "number" "I", Cond.fieldLink RX4 81 "LayoutPress$Node" "within" "J"]
def wsX10_soft_r3 : List Cond := [Cond.methodLink RX4 119 yX4_bit, Cond.instanceMethod yX4_bit, Cond.selects RX4 yX4_bit yX4_bit, Cond.code yX4_bit cX4_bit 1 (some .long)]
def wsX10_soft : List Cond := .code yX10_soft cX10_soft 1 (some .int) :: ((wsX10_soft_r1 ++ (wsX10_soft_r2 ++ wsX10_soft_r3)) ++ wsX40 ++ wsX100 ++ (vx_atS RX10 130 "java/lang/IllegalStateException" ["java/lang/RuntimeException", "java/lang/Exception"]).filter goodWord)
def wsX10_hard_r1 : List Cond := [Cond.classLink RX10 9 RX4, Cond.instantiable RX4 15, Cond.initialized RX4, Cond.fieldLink RX10 82 "LayoutPress$Kind" "HARD" "LLayoutPress$Kind;", Cond.methodLink RX10 66 yX4_init, Cond.instanceMethod yX4_init, Cond.code yX4_init cX4_init 4 none, Cond.methodLink RX4 3 objectInit, Cond.instanceMethod objectInit, Cond.code objectInit ⟨#[0xb1]⟩ 1 none, Cond.fieldLink RX4 9 "LayoutPress$Node" "kind" "LLayoutPress$Kind;", Cond.fieldLink RX4 15 "LayoutPress$Node" "value" "I", Cond.fieldLink RX4 19 "LayoutPress$Node" "first" "LLayoutPress$Node;", Cond.fieldLink RX4 23 "LayoutPress$Node" "second" "LLayoutPress$Node;", Cond.fieldLink RX4 26 "LayoutPress$Node" "leaves" "I", Cond.fieldLink RX4 29 "LayoutPress$Node" "flatWidth" "I", Cond.fieldLink RX4 38 "LayoutPress$Node" "barred" "Z", Cond.fieldLink RX4 45 "LayoutPress$Node" "indents" "Z", Cond.fieldLink RX4 52 "LayoutPress$Node" "traits" "I", Cond.fieldLink RX4 55 "LayoutPress$Node" "layoutCount" "I", Cond.fieldLink RX4 58 "LayoutPress$Node" "flatLayoutCount" "I", Cond.methodLink RX4 41 yX3_endsLine, Cond.instanceMethod yX3_endsLine, Cond.selects RX3 yX3_endsLine yX3_endsLine]
def wsX10_hard_r2 : List Cond := [Cond.initialized RX3, Cond.code yX3_endsLine cX3_endsLine 1 (some .boolean), Cond.fieldLink RX3 10 "LayoutPress$Kind" "LINE" "LLayoutPress$Kind;", Cond.fieldLink RX3 13 "LayoutPress$Kind" "SOFT" "LLayoutPress$Kind;", Cond.fieldLink RX3 16 "LayoutPress$Kind" "HARD" "LLayoutPress$Kind;", Cond.methodLink RX4 48 yX4_traitsOfLeaf, Cond.static yX4_traitsOfLeaf, Cond.code yX4_traitsOfLeaf cX4_traitsOfLeaf 2 (some .int), Cond.fieldLink RX4 69 "LayoutPress$Kind" "TAB" "LLayoutPress$Kind;", Cond.methodLink RX10 69 yX10_add, Cond.instanceMethod yX10_add, Cond.selects RX10 yX10_add yX10_add, Cond.initialized RX10, Cond.code yX10_add cX10_add 2 (some .int), Cond.classLink RX10 126 "java/lang/IllegalStateException", Cond.initialized "java/lang/IllegalStateException", Cond.fieldLink RX10 15 "LayoutPress" "madeCount" "I", Cond.fieldLink RX10 11 "LayoutPress" "made" "[LLayoutPress$Node;", Cond.methodLink RX10 252 yX4_take, Cond.instanceMethod yX4_take, Cond.selects RX4 yX4_take yX4_take, Cond.code yX4_take cX4_take 2 none, Cond.fieldLink RX4 116 "LayoutPress$Node" "number" "I", Cond.fieldLink RX4 81 "LayoutPress$Node" "within" "J"]
def wsX10_hard_r3 : List Cond := [Cond.methodLink RX4 119 yX4_bit, Cond.instanceMethod yX4_bit, Cond.selects RX4 yX4_bit yX4_bit, Cond.code yX4_bit cX4_bit 1 (some .long)]
def wsX10_hard : List Cond := .code yX10_hard cX10_hard 1 (some .int) :: ((wsX10_hard_r1 ++ (wsX10_hard_r2 ++ wsX10_hard_r3)) ++ wsX40 ++ wsX100 ++ (vx_atS RX10 130 "java/lang/IllegalStateException" ["java/lang/RuntimeException", "java/lang/Exception"]).filter goodWord)
def wsX10_tab_r1 : List Cond := [Cond.classLink RX10 9 RX4, Cond.instantiable RX4 15, Cond.initialized RX4, Cond.fieldLink RX10 85 "LayoutPress$Kind" "TAB" "LLayoutPress$Kind;", Cond.methodLink RX10 56 yX10_checkRange, Cond.static yX10_checkRange, Cond.initialized RX10, Cond.code yX10_checkRange cX10_checkRange 3 none, Cond.classLink RX10 234 "java/lang/IllegalArgumentException", Cond.initialized "java/lang/IllegalArgumentException", Cond.methodLink RX10 66 yX4_init, Cond.instanceMethod yX4_init, Cond.code yX4_init cX4_init 4 none, Cond.methodLink RX4 3 objectInit, Cond.instanceMethod objectInit, Cond.code objectInit ⟨#[0xb1]⟩ 1 none, Cond.fieldLink RX4 9 "LayoutPress$Node" "kind" "LLayoutPress$Kind;", Cond.fieldLink RX4 15 "LayoutPress$Node" "value" "I", Cond.fieldLink RX4 19 "LayoutPress$Node" "first" "LLayoutPress$Node;", Cond.fieldLink RX4 23 "LayoutPress$Node" "second" "LLayoutPress$Node;", Cond.fieldLink RX4 26 "LayoutPress$Node" "leaves" "I", Cond.fieldLink RX4 29 "LayoutPress$Node" "flatWidth" "I", Cond.fieldLink RX4 38 "LayoutPress$Node" "barred" "Z", Cond.fieldLink RX4 45 "LayoutPress$Node" "indents" "Z"]
def wsX10_tab_r2 : List Cond := [Cond.fieldLink RX4 52 "LayoutPress$Node" "traits" "I", Cond.fieldLink RX4 55 "LayoutPress$Node" "layoutCount" "I", Cond.fieldLink RX4 58 "LayoutPress$Node" "flatLayoutCount" "I", Cond.methodLink RX4 41 yX3_endsLine, Cond.instanceMethod yX3_endsLine, Cond.selects RX3 yX3_endsLine yX3_endsLine, Cond.initialized RX3, Cond.code yX3_endsLine cX3_endsLine 1 (some .boolean), Cond.fieldLink RX3 10 "LayoutPress$Kind" "LINE" "LLayoutPress$Kind;", Cond.fieldLink RX3 13 "LayoutPress$Kind" "SOFT" "LLayoutPress$Kind;", Cond.fieldLink RX3 16 "LayoutPress$Kind" "HARD" "LLayoutPress$Kind;", Cond.methodLink RX4 48 yX4_traitsOfLeaf, Cond.static yX4_traitsOfLeaf, Cond.code yX4_traitsOfLeaf cX4_traitsOfLeaf 2 (some .int), Cond.fieldLink RX4 69 "LayoutPress$Kind" "TAB" "LLayoutPress$Kind;", Cond.methodLink RX10 69 yX10_add, Cond.instanceMethod yX10_add, Cond.selects RX10 yX10_add yX10_add, Cond.code yX10_add cX10_add 2 (some .int), Cond.classLink RX10 126 "java/lang/IllegalStateException", Cond.initialized "java/lang/IllegalStateException", Cond.fieldLink RX10 15 "LayoutPress" "madeCount" "I", Cond.fieldLink RX10 11 "LayoutPress" "made" "[LLayoutPress$Node;", Cond.methodLink RX10 252 yX4_take]
def wsX10_tab_r3 : List Cond := [Cond.instanceMethod yX4_take, Cond.selects RX4 yX4_take yX4_take, Cond.code yX4_take cX4_take 2 none, Cond.fieldLink RX4 116 "LayoutPress$Node" "number" "I", Cond.fieldLink RX4 81 "LayoutPress$Node" "within" "J", Cond.methodLink RX4 119 yX4_bit, Cond.instanceMethod yX4_bit, Cond.selects RX4 yX4_bit yX4_bit, Cond.code yX4_bit cX4_bit 1 (some .long)]
def wsX10_tab : List Cond := .code yX10_tab cX10_tab 2 (some .int) :: ((wsX10_tab_r1 ++ (wsX10_tab_r2 ++ wsX10_tab_r3)) ++ wsX40 ++ wsX100 ++ (vx_atS RX10 238 "java/lang/IllegalArgumentException" ["java/lang/RuntimeException", "java/lang/Exception"]).filter goodWord ++ (vx_atS RX10 130 "java/lang/IllegalStateException" ["java/lang/RuntimeException", "java/lang/Exception"]).filter goodWord)
def wsX10_nodeOf : List Cond := .code yX10_nodeOf cX10_nodeOf 3 (some (.object "LayoutPress$Node")) :: ([.classLink RX10 208 "java/lang/IndexOutOfBoundsException", .initialized "java/lang/IndexOutOfBoundsException", .fieldLink RX10 15 "LayoutPress" "madeCount" "I", .fieldLink RX10 11 "LayoutPress" "made" "[LLayoutPress$Node;"] ++ wsX100 ++ (vx_atS RX10 212 "java/lang/IndexOutOfBoundsException" ["java/lang/RuntimeException", "java/lang/Exception"]).filter goodWord)
def wsX10_pair_r1 : List Cond := [Cond.classLink RX10 9 RX4, Cond.instantiable RX4 15, Cond.initialized RX4, Cond.fieldLink RX10 88 "LayoutPress$Kind" "PAIR" "LLayoutPress$Kind;", Cond.methodLink RX10 91 yX10_nodeOf, Cond.instanceMethod yX10_nodeOf, Cond.selects RX10 yX10_nodeOf yX10_nodeOf, Cond.initialized RX10, Cond.code yX10_nodeOf cX10_nodeOf 3 (some (.object "LayoutPress$Node")), Cond.classLink RX10 208 "java/lang/IndexOutOfBoundsException", Cond.initialized "java/lang/IndexOutOfBoundsException", Cond.fieldLink RX10 15 "LayoutPress" "madeCount" "I", Cond.fieldLink RX10 11 "LayoutPress" "made" "[LLayoutPress$Node;", Cond.methodLink RX10 95 yX4_init_, Cond.instanceMethod yX4_init_, Cond.code yX4_init_ cX4_init_ 5 none, Cond.methodLink RX4 3 objectInit, Cond.instanceMethod objectInit, Cond.code objectInit ⟨#[0xb1]⟩ 1 none, Cond.fieldLink RX4 9 "LayoutPress$Node" "kind" "LLayoutPress$Kind;", Cond.fieldLink RX4 15 "LayoutPress$Node" "value" "I", Cond.fieldLink RX4 19 "LayoutPress$Node" "first" "LLayoutPress$Node;", Cond.fieldLink RX4 23 "LayoutPress$Node" "second" "LLayoutPress$Node;", Cond.methodLink RX4 61 yX4_measureTwo]
def wsX10_pair_r2 : List Cond := [Cond.instanceMethod yX4_measureTwo, Cond.selects RX4 yX4_measureTwo yX4_measureTwo, Cond.code yX4_measureTwo cX4_measureTwo 3 none, Cond.fieldLink RX4 26 "LayoutPress$Node" "leaves" "I", Cond.fieldLink RX4 81 "LayoutPress$Node" "within" "J", Cond.fieldLink RX4 52 "LayoutPress$Node" "traits" "I", Cond.fieldLink RX4 45 "LayoutPress$Node" "indents" "Z", Cond.fieldLink RX4 104 "LayoutPress$Kind" "BROKEN" "LLayoutPress$Kind;", Cond.fieldLink RX4 107 "LayoutPress$Kind" "PAIR" "LLayoutPress$Kind;", Cond.fieldLink RX4 29 "LayoutPress$Node" "flatWidth" "I", Cond.fieldLink RX4 38 "LayoutPress$Node" "barred" "Z", Cond.fieldLink RX4 91 "LayoutPress$Node" "mostWays" "I", Cond.fieldLink RX4 85 "LayoutPress$Node" "mostFlatWays" "I", Cond.fieldLink RX4 55 "LayoutPress$Node" "layoutCount" "I", Cond.fieldLink RX4 58 "LayoutPress$Node" "flatLayoutCount" "I", Cond.fieldLink RX4 110 "LayoutPress$Kind" "CHOICE" "LLayoutPress$Kind;", Cond.methodLink RX4 94 Lib.Math.max.name, Cond.static Lib.Math.max.name, Cond.initialized "java/lang/Math", Cond.code Lib.Math.max.name Lib.Math.max.code 2 (some .int), Cond.methodLink RX4 100 yX4_atMostCounted, Cond.static yX4_atMostCounted, Cond.code yX4_atMostCounted cX4_atMostCounted 2 (some .int), Cond.constantLong RX4 113 (1000000)]
def wsX10_pair_r3 : List Cond := [Cond.constant RX4 115 (1000000), Cond.methodLink RX4 65 yX4_measureOne, Cond.instanceMethod yX4_measureOne, Cond.selects RX4 yX4_measureOne yX4_measureOne, Cond.code yX4_measureOne cX4_measureOne 3 none, Cond.fieldLink RX4 72 "LayoutPress$Kind" "FLAT" "LLayoutPress$Kind;", Cond.fieldLink RX4 75 "LayoutPress$Kind" "CELL" "LLayoutPress$Kind;", Cond.fieldLink RX4 78 "LayoutPress$Kind" "ALIGN" "LLayoutPress$Kind;", Cond.fieldLink RX4 88 "LayoutPress$Kind" "GROUP" "LLayoutPress$Kind;", Cond.methodLink RX10 69 yX10_add, Cond.instanceMethod yX10_add, Cond.selects RX10 yX10_add yX10_add, Cond.code yX10_add cX10_add 2 (some .int), Cond.classLink RX10 126 "java/lang/IllegalStateException", Cond.initialized "java/lang/IllegalStateException", Cond.methodLink RX10 252 yX4_take, Cond.instanceMethod yX4_take, Cond.selects RX4 yX4_take yX4_take, Cond.code yX4_take cX4_take 2 none, Cond.fieldLink RX4 116 "LayoutPress$Node" "number" "I", Cond.methodLink RX4 119 yX4_bit, Cond.instanceMethod yX4_bit, Cond.selects RX4 yX4_bit yX4_bit, Cond.code yX4_bit cX4_bit 1 (some .long)]
def wsX10_pair : List Cond := .code yX10_pair cX10_pair 3 (some .int) :: ((wsX10_pair_r1 ++ (wsX10_pair_r2 ++ wsX10_pair_r3)) ++ wsX40 ++ wsX100 ++ (vx_atS RX10 212 "java/lang/IndexOutOfBoundsException" ["java/lang/RuntimeException", "java/lang/Exception"]).filter goodWord ++ (vx_atS RX10 130 "java/lang/IllegalStateException" ["java/lang/RuntimeException", "java/lang/Exception"]).filter goodWord)
def wsX10_nest_r1 : List Cond := [Cond.classLink RX10 9 RX4, Cond.instantiable RX4 15, Cond.initialized RX4, Cond.fieldLink RX10 98 "LayoutPress$Kind" "NEST" "LLayoutPress$Kind;", Cond.methodLink RX10 91 yX10_nodeOf, Cond.instanceMethod yX10_nodeOf, Cond.selects RX10 yX10_nodeOf yX10_nodeOf, Cond.initialized RX10, Cond.code yX10_nodeOf cX10_nodeOf 3 (some (.object "LayoutPress$Node")), Cond.classLink RX10 208 "java/lang/IndexOutOfBoundsException", Cond.initialized "java/lang/IndexOutOfBoundsException", Cond.fieldLink RX10 15 "LayoutPress" "madeCount" "I", Cond.fieldLink RX10 11 "LayoutPress" "made" "[LLayoutPress$Node;", Cond.methodLink RX10 56 yX10_checkRange, Cond.static yX10_checkRange, Cond.code yX10_checkRange cX10_checkRange 3 none, Cond.classLink RX10 234 "java/lang/IllegalArgumentException", Cond.initialized "java/lang/IllegalArgumentException", Cond.methodLink RX10 95 yX4_init_, Cond.instanceMethod yX4_init_, Cond.code yX4_init_ cX4_init_ 5 none, Cond.methodLink RX4 3 objectInit, Cond.instanceMethod objectInit, Cond.code objectInit ⟨#[0xb1]⟩ 1 none]
def wsX10_nest_r2 : List Cond := [Cond.fieldLink RX4 9 "LayoutPress$Node" "kind" "LLayoutPress$Kind;", Cond.fieldLink RX4 15 "LayoutPress$Node" "value" "I", Cond.fieldLink RX4 19 "LayoutPress$Node" "first" "LLayoutPress$Node;", Cond.fieldLink RX4 23 "LayoutPress$Node" "second" "LLayoutPress$Node;", Cond.methodLink RX4 61 yX4_measureTwo, Cond.instanceMethod yX4_measureTwo, Cond.selects RX4 yX4_measureTwo yX4_measureTwo, Cond.code yX4_measureTwo cX4_measureTwo 3 none, Cond.fieldLink RX4 26 "LayoutPress$Node" "leaves" "I", Cond.fieldLink RX4 81 "LayoutPress$Node" "within" "J", Cond.fieldLink RX4 52 "LayoutPress$Node" "traits" "I", Cond.fieldLink RX4 45 "LayoutPress$Node" "indents" "Z", Cond.fieldLink RX4 104 "LayoutPress$Kind" "BROKEN" "LLayoutPress$Kind;", Cond.fieldLink RX4 107 "LayoutPress$Kind" "PAIR" "LLayoutPress$Kind;", Cond.fieldLink RX4 29 "LayoutPress$Node" "flatWidth" "I", Cond.fieldLink RX4 38 "LayoutPress$Node" "barred" "Z", Cond.fieldLink RX4 91 "LayoutPress$Node" "mostWays" "I", Cond.fieldLink RX4 85 "LayoutPress$Node" "mostFlatWays" "I", Cond.fieldLink RX4 55 "LayoutPress$Node" "layoutCount" "I", Cond.fieldLink RX4 58 "LayoutPress$Node" "flatLayoutCount" "I", Cond.fieldLink RX4 110 "LayoutPress$Kind" "CHOICE" "LLayoutPress$Kind;", Cond.methodLink RX4 94 Lib.Math.max.name, Cond.static Lib.Math.max.name, Cond.initialized "java/lang/Math"]
def wsX10_nest_r3 : List Cond := [Cond.code Lib.Math.max.name Lib.Math.max.code 2 (some .int), Cond.methodLink RX4 100 yX4_atMostCounted, Cond.static yX4_atMostCounted, Cond.code yX4_atMostCounted cX4_atMostCounted 2 (some .int), Cond.constantLong RX4 113 (1000000), Cond.constant RX4 115 (1000000), Cond.methodLink RX4 65 yX4_measureOne, Cond.instanceMethod yX4_measureOne, Cond.selects RX4 yX4_measureOne yX4_measureOne, Cond.code yX4_measureOne cX4_measureOne 3 none, Cond.fieldLink RX4 72 "LayoutPress$Kind" "FLAT" "LLayoutPress$Kind;", Cond.fieldLink RX4 75 "LayoutPress$Kind" "CELL" "LLayoutPress$Kind;", Cond.fieldLink RX4 78 "LayoutPress$Kind" "ALIGN" "LLayoutPress$Kind;", Cond.fieldLink RX4 88 "LayoutPress$Kind" "GROUP" "LLayoutPress$Kind;", Cond.methodLink RX10 69 yX10_add, Cond.instanceMethod yX10_add, Cond.selects RX10 yX10_add yX10_add, Cond.code yX10_add cX10_add 2 (some .int), Cond.classLink RX10 126 "java/lang/IllegalStateException", Cond.initialized "java/lang/IllegalStateException", Cond.methodLink RX10 252 yX4_take, Cond.instanceMethod yX4_take, Cond.selects RX4 yX4_take yX4_take, Cond.code yX4_take cX4_take 2 none]
def wsX10_nest_r4 : List Cond := [Cond.fieldLink RX4 116 "LayoutPress$Node" "number" "I", Cond.methodLink RX4 119 yX4_bit, Cond.instanceMethod yX4_bit, Cond.selects RX4 yX4_bit yX4_bit, Cond.code yX4_bit cX4_bit 1 (some .long)]
def wsX10_nest : List Cond := .code yX10_nest cX10_nest 4 (some .int) :: ((wsX10_nest_r1 ++ (wsX10_nest_r2 ++ (wsX10_nest_r3 ++ wsX10_nest_r4))) ++ wsX40 ++ wsX100 ++ (vx_atS RX10 212 "java/lang/IndexOutOfBoundsException" ["java/lang/RuntimeException", "java/lang/Exception"]).filter goodWord ++ (vx_atS RX10 238 "java/lang/IllegalArgumentException" ["java/lang/RuntimeException", "java/lang/Exception"]).filter goodWord ++ (vx_atS RX10 130 "java/lang/IllegalStateException" ["java/lang/RuntimeException", "java/lang/Exception"]).filter goodWord)
def wsX10_align_r1 : List Cond := [Cond.classLink RX10 9 RX4, Cond.instantiable RX4 15, Cond.initialized RX4, Cond.fieldLink RX10 101 "LayoutPress$Kind" "ALIGN" "LLayoutPress$Kind;", Cond.methodLink RX10 91 yX10_nodeOf, Cond.instanceMethod yX10_nodeOf, Cond.selects RX10 yX10_nodeOf yX10_nodeOf, Cond.initialized RX10, Cond.code yX10_nodeOf cX10_nodeOf 3 (some (.object "LayoutPress$Node")), Cond.classLink RX10 208 "java/lang/IndexOutOfBoundsException", Cond.initialized "java/lang/IndexOutOfBoundsException", Cond.fieldLink RX10 15 "LayoutPress" "madeCount" "I", Cond.fieldLink RX10 11 "LayoutPress" "made" "[LLayoutPress$Node;", Cond.methodLink RX10 95 yX4_init_, Cond.instanceMethod yX4_init_, Cond.code yX4_init_ cX4_init_ 5 none, Cond.methodLink RX4 3 objectInit, Cond.instanceMethod objectInit, Cond.code objectInit ⟨#[0xb1]⟩ 1 none, Cond.fieldLink RX4 9 "LayoutPress$Node" "kind" "LLayoutPress$Kind;", Cond.fieldLink RX4 15 "LayoutPress$Node" "value" "I", Cond.fieldLink RX4 19 "LayoutPress$Node" "first" "LLayoutPress$Node;", Cond.fieldLink RX4 23 "LayoutPress$Node" "second" "LLayoutPress$Node;", Cond.methodLink RX4 61 yX4_measureTwo]
def wsX10_align_r2 : List Cond := [Cond.instanceMethod yX4_measureTwo, Cond.selects RX4 yX4_measureTwo yX4_measureTwo, Cond.code yX4_measureTwo cX4_measureTwo 3 none, Cond.fieldLink RX4 26 "LayoutPress$Node" "leaves" "I", Cond.fieldLink RX4 81 "LayoutPress$Node" "within" "J", Cond.fieldLink RX4 52 "LayoutPress$Node" "traits" "I", Cond.fieldLink RX4 45 "LayoutPress$Node" "indents" "Z", Cond.fieldLink RX4 104 "LayoutPress$Kind" "BROKEN" "LLayoutPress$Kind;", Cond.fieldLink RX4 107 "LayoutPress$Kind" "PAIR" "LLayoutPress$Kind;", Cond.fieldLink RX4 29 "LayoutPress$Node" "flatWidth" "I", Cond.fieldLink RX4 38 "LayoutPress$Node" "barred" "Z", Cond.fieldLink RX4 91 "LayoutPress$Node" "mostWays" "I", Cond.fieldLink RX4 85 "LayoutPress$Node" "mostFlatWays" "I", Cond.fieldLink RX4 55 "LayoutPress$Node" "layoutCount" "I", Cond.fieldLink RX4 58 "LayoutPress$Node" "flatLayoutCount" "I", Cond.fieldLink RX4 110 "LayoutPress$Kind" "CHOICE" "LLayoutPress$Kind;", Cond.methodLink RX4 94 Lib.Math.max.name, Cond.static Lib.Math.max.name, Cond.initialized "java/lang/Math", Cond.code Lib.Math.max.name Lib.Math.max.code 2 (some .int), Cond.methodLink RX4 100 yX4_atMostCounted, Cond.static yX4_atMostCounted, Cond.code yX4_atMostCounted cX4_atMostCounted 2 (some .int), Cond.constantLong RX4 113 (1000000)]
def wsX10_align_r3 : List Cond := [Cond.constant RX4 115 (1000000), Cond.methodLink RX4 65 yX4_measureOne, Cond.instanceMethod yX4_measureOne, Cond.selects RX4 yX4_measureOne yX4_measureOne, Cond.code yX4_measureOne cX4_measureOne 3 none, Cond.fieldLink RX4 72 "LayoutPress$Kind" "FLAT" "LLayoutPress$Kind;", Cond.fieldLink RX4 75 "LayoutPress$Kind" "CELL" "LLayoutPress$Kind;", Cond.fieldLink RX4 78 "LayoutPress$Kind" "ALIGN" "LLayoutPress$Kind;", Cond.fieldLink RX4 88 "LayoutPress$Kind" "GROUP" "LLayoutPress$Kind;", Cond.methodLink RX10 69 yX10_add, Cond.instanceMethod yX10_add, Cond.selects RX10 yX10_add yX10_add, Cond.code yX10_add cX10_add 2 (some .int), Cond.classLink RX10 126 "java/lang/IllegalStateException", Cond.initialized "java/lang/IllegalStateException", Cond.methodLink RX10 252 yX4_take, Cond.instanceMethod yX4_take, Cond.selects RX4 yX4_take yX4_take, Cond.code yX4_take cX4_take 2 none, Cond.fieldLink RX4 116 "LayoutPress$Node" "number" "I", Cond.methodLink RX4 119 yX4_bit, Cond.instanceMethod yX4_bit, Cond.selects RX4 yX4_bit yX4_bit, Cond.code yX4_bit cX4_bit 1 (some .long)]
def wsX10_align : List Cond := .code yX10_align cX10_align 2 (some .int) :: ((wsX10_align_r1 ++ (wsX10_align_r2 ++ wsX10_align_r3)) ++ wsX40 ++ wsX100 ++ (vx_atS RX10 212 "java/lang/IndexOutOfBoundsException" ["java/lang/RuntimeException", "java/lang/Exception"]).filter goodWord ++ (vx_atS RX10 130 "java/lang/IllegalStateException" ["java/lang/RuntimeException", "java/lang/Exception"]).filter goodWord)
def wsX10_group_r1 : List Cond := [Cond.classLink RX10 9 RX4, Cond.instantiable RX4 15, Cond.initialized RX4, Cond.fieldLink RX10 104 "LayoutPress$Kind" "GROUP" "LLayoutPress$Kind;", Cond.methodLink RX10 91 yX10_nodeOf, Cond.instanceMethod yX10_nodeOf, Cond.selects RX10 yX10_nodeOf yX10_nodeOf, Cond.initialized RX10, Cond.code yX10_nodeOf cX10_nodeOf 3 (some (.object "LayoutPress$Node")), Cond.classLink RX10 208 "java/lang/IndexOutOfBoundsException", Cond.initialized "java/lang/IndexOutOfBoundsException", Cond.fieldLink RX10 15 "LayoutPress" "madeCount" "I", Cond.fieldLink RX10 11 "LayoutPress" "made" "[LLayoutPress$Node;", Cond.methodLink RX10 95 yX4_init_, Cond.instanceMethod yX4_init_, Cond.code yX4_init_ cX4_init_ 5 none, Cond.methodLink RX4 3 objectInit, Cond.instanceMethod objectInit, Cond.code objectInit ⟨#[0xb1]⟩ 1 none, Cond.fieldLink RX4 9 "LayoutPress$Node" "kind" "LLayoutPress$Kind;", Cond.fieldLink RX4 15 "LayoutPress$Node" "value" "I", Cond.fieldLink RX4 19 "LayoutPress$Node" "first" "LLayoutPress$Node;", Cond.fieldLink RX4 23 "LayoutPress$Node" "second" "LLayoutPress$Node;", Cond.methodLink RX4 61 yX4_measureTwo]
def wsX10_group_r2 : List Cond := [Cond.instanceMethod yX4_measureTwo, Cond.selects RX4 yX4_measureTwo yX4_measureTwo, Cond.code yX4_measureTwo cX4_measureTwo 3 none, Cond.fieldLink RX4 26 "LayoutPress$Node" "leaves" "I", Cond.fieldLink RX4 81 "LayoutPress$Node" "within" "J", Cond.fieldLink RX4 52 "LayoutPress$Node" "traits" "I", Cond.fieldLink RX4 45 "LayoutPress$Node" "indents" "Z", Cond.fieldLink RX4 104 "LayoutPress$Kind" "BROKEN" "LLayoutPress$Kind;", Cond.fieldLink RX4 107 "LayoutPress$Kind" "PAIR" "LLayoutPress$Kind;", Cond.fieldLink RX4 29 "LayoutPress$Node" "flatWidth" "I", Cond.fieldLink RX4 38 "LayoutPress$Node" "barred" "Z", Cond.fieldLink RX4 91 "LayoutPress$Node" "mostWays" "I", Cond.fieldLink RX4 85 "LayoutPress$Node" "mostFlatWays" "I", Cond.fieldLink RX4 55 "LayoutPress$Node" "layoutCount" "I", Cond.fieldLink RX4 58 "LayoutPress$Node" "flatLayoutCount" "I", Cond.fieldLink RX4 110 "LayoutPress$Kind" "CHOICE" "LLayoutPress$Kind;", Cond.methodLink RX4 94 Lib.Math.max.name, Cond.static Lib.Math.max.name, Cond.initialized "java/lang/Math", Cond.code Lib.Math.max.name Lib.Math.max.code 2 (some .int), Cond.methodLink RX4 100 yX4_atMostCounted, Cond.static yX4_atMostCounted, Cond.code yX4_atMostCounted cX4_atMostCounted 2 (some .int), Cond.constantLong RX4 113 (1000000)]
def wsX10_group_r3 : List Cond := [Cond.constant RX4 115 (1000000), Cond.methodLink RX4 65 yX4_measureOne, Cond.instanceMethod yX4_measureOne, Cond.selects RX4 yX4_measureOne yX4_measureOne, Cond.code yX4_measureOne cX4_measureOne 3 none, Cond.fieldLink RX4 72 "LayoutPress$Kind" "FLAT" "LLayoutPress$Kind;", Cond.fieldLink RX4 75 "LayoutPress$Kind" "CELL" "LLayoutPress$Kind;", Cond.fieldLink RX4 78 "LayoutPress$Kind" "ALIGN" "LLayoutPress$Kind;", Cond.fieldLink RX4 88 "LayoutPress$Kind" "GROUP" "LLayoutPress$Kind;", Cond.methodLink RX10 69 yX10_add, Cond.instanceMethod yX10_add, Cond.selects RX10 yX10_add yX10_add, Cond.code yX10_add cX10_add 2 (some .int), Cond.classLink RX10 126 "java/lang/IllegalStateException", Cond.initialized "java/lang/IllegalStateException", Cond.methodLink RX10 252 yX4_take, Cond.instanceMethod yX4_take, Cond.selects RX4 yX4_take yX4_take, Cond.code yX4_take cX4_take 2 none, Cond.fieldLink RX4 116 "LayoutPress$Node" "number" "I", Cond.methodLink RX4 119 yX4_bit, Cond.instanceMethod yX4_bit, Cond.selects RX4 yX4_bit yX4_bit, Cond.code yX4_bit cX4_bit 1 (some .long)]
def wsX10_group : List Cond := .code yX10_group cX10_group 2 (some .int) :: ((wsX10_group_r1 ++ (wsX10_group_r2 ++ wsX10_group_r3)) ++ wsX40 ++ wsX100 ++ (vx_atS RX10 212 "java/lang/IndexOutOfBoundsException" ["java/lang/RuntimeException", "java/lang/Exception"]).filter goodWord ++ (vx_atS RX10 130 "java/lang/IllegalStateException" ["java/lang/RuntimeException", "java/lang/Exception"]).filter goodWord)
def wsX10_choice_r1 : List Cond := [Cond.classLink RX10 9 RX4, Cond.instantiable RX4 15, Cond.initialized RX4, Cond.fieldLink RX10 107 "LayoutPress$Kind" "CHOICE" "LLayoutPress$Kind;", Cond.methodLink RX10 91 yX10_nodeOf, Cond.instanceMethod yX10_nodeOf, Cond.selects RX10 yX10_nodeOf yX10_nodeOf, Cond.initialized RX10, Cond.code yX10_nodeOf cX10_nodeOf 3 (some (.object "LayoutPress$Node")), Cond.classLink RX10 208 "java/lang/IndexOutOfBoundsException", Cond.initialized "java/lang/IndexOutOfBoundsException", Cond.fieldLink RX10 15 "LayoutPress" "madeCount" "I", Cond.fieldLink RX10 11 "LayoutPress" "made" "[LLayoutPress$Node;", Cond.methodLink RX10 95 yX4_init_, Cond.instanceMethod yX4_init_, Cond.code yX4_init_ cX4_init_ 5 none, Cond.methodLink RX4 3 objectInit, Cond.instanceMethod objectInit, Cond.code objectInit ⟨#[0xb1]⟩ 1 none, Cond.fieldLink RX4 9 "LayoutPress$Node" "kind" "LLayoutPress$Kind;", Cond.fieldLink RX4 15 "LayoutPress$Node" "value" "I", Cond.fieldLink RX4 19 "LayoutPress$Node" "first" "LLayoutPress$Node;", Cond.fieldLink RX4 23 "LayoutPress$Node" "second" "LLayoutPress$Node;", Cond.methodLink RX4 61 yX4_measureTwo]
def wsX10_choice_r2 : List Cond := [Cond.instanceMethod yX4_measureTwo, Cond.selects RX4 yX4_measureTwo yX4_measureTwo, Cond.code yX4_measureTwo cX4_measureTwo 3 none, Cond.fieldLink RX4 26 "LayoutPress$Node" "leaves" "I", Cond.fieldLink RX4 81 "LayoutPress$Node" "within" "J", Cond.fieldLink RX4 52 "LayoutPress$Node" "traits" "I", Cond.fieldLink RX4 45 "LayoutPress$Node" "indents" "Z", Cond.fieldLink RX4 104 "LayoutPress$Kind" "BROKEN" "LLayoutPress$Kind;", Cond.fieldLink RX4 107 "LayoutPress$Kind" "PAIR" "LLayoutPress$Kind;", Cond.fieldLink RX4 29 "LayoutPress$Node" "flatWidth" "I", Cond.fieldLink RX4 38 "LayoutPress$Node" "barred" "Z", Cond.fieldLink RX4 91 "LayoutPress$Node" "mostWays" "I", Cond.fieldLink RX4 85 "LayoutPress$Node" "mostFlatWays" "I", Cond.fieldLink RX4 55 "LayoutPress$Node" "layoutCount" "I", Cond.fieldLink RX4 58 "LayoutPress$Node" "flatLayoutCount" "I", Cond.fieldLink RX4 110 "LayoutPress$Kind" "CHOICE" "LLayoutPress$Kind;", Cond.methodLink RX4 94 Lib.Math.max.name, Cond.static Lib.Math.max.name, Cond.initialized "java/lang/Math", Cond.code Lib.Math.max.name Lib.Math.max.code 2 (some .int), Cond.methodLink RX4 100 yX4_atMostCounted, Cond.static yX4_atMostCounted, Cond.code yX4_atMostCounted cX4_atMostCounted 2 (some .int), Cond.constantLong RX4 113 (1000000)]
def wsX10_choice_r3 : List Cond := [Cond.constant RX4 115 (1000000), Cond.methodLink RX4 65 yX4_measureOne, Cond.instanceMethod yX4_measureOne, Cond.selects RX4 yX4_measureOne yX4_measureOne, Cond.code yX4_measureOne cX4_measureOne 3 none, Cond.fieldLink RX4 72 "LayoutPress$Kind" "FLAT" "LLayoutPress$Kind;", Cond.fieldLink RX4 75 "LayoutPress$Kind" "CELL" "LLayoutPress$Kind;", Cond.fieldLink RX4 78 "LayoutPress$Kind" "ALIGN" "LLayoutPress$Kind;", Cond.fieldLink RX4 88 "LayoutPress$Kind" "GROUP" "LLayoutPress$Kind;", Cond.methodLink RX10 69 yX10_add, Cond.instanceMethod yX10_add, Cond.selects RX10 yX10_add yX10_add, Cond.code yX10_add cX10_add 2 (some .int), Cond.classLink RX10 126 "java/lang/IllegalStateException", Cond.initialized "java/lang/IllegalStateException", Cond.methodLink RX10 252 yX4_take, Cond.instanceMethod yX4_take, Cond.selects RX4 yX4_take yX4_take, Cond.code yX4_take cX4_take 2 none, Cond.fieldLink RX4 116 "LayoutPress$Node" "number" "I", Cond.methodLink RX4 119 yX4_bit, Cond.instanceMethod yX4_bit, Cond.selects RX4 yX4_bit yX4_bit, Cond.code yX4_bit cX4_bit 1 (some .long)]
def wsX10_choice : List Cond := .code yX10_choice cX10_choice 3 (some .int) :: ((wsX10_choice_r1 ++ (wsX10_choice_r2 ++ wsX10_choice_r3)) ++ wsX40 ++ wsX100 ++ (vx_atS RX10 212 "java/lang/IndexOutOfBoundsException" ["java/lang/RuntimeException", "java/lang/Exception"]).filter goodWord ++ (vx_atS RX10 130 "java/lang/IllegalStateException" ["java/lang/RuntimeException", "java/lang/Exception"]).filter goodWord)
def wsX10_flat_r1 : List Cond := [Cond.classLink RX10 9 RX4, Cond.instantiable RX4 15, Cond.initialized RX4, Cond.fieldLink RX10 110 "LayoutPress$Kind" "FLAT" "LLayoutPress$Kind;", Cond.methodLink RX10 91 yX10_nodeOf, Cond.instanceMethod yX10_nodeOf, Cond.selects RX10 yX10_nodeOf yX10_nodeOf, Cond.initialized RX10, Cond.code yX10_nodeOf cX10_nodeOf 3 (some (.object "LayoutPress$Node")), Cond.classLink RX10 208 "java/lang/IndexOutOfBoundsException", Cond.initialized "java/lang/IndexOutOfBoundsException", Cond.fieldLink RX10 15 "LayoutPress" "madeCount" "I", Cond.fieldLink RX10 11 "LayoutPress" "made" "[LLayoutPress$Node;", Cond.methodLink RX10 95 yX4_init_, Cond.instanceMethod yX4_init_, Cond.code yX4_init_ cX4_init_ 5 none, Cond.methodLink RX4 3 objectInit, Cond.instanceMethod objectInit, Cond.code objectInit ⟨#[0xb1]⟩ 1 none, Cond.fieldLink RX4 9 "LayoutPress$Node" "kind" "LLayoutPress$Kind;", Cond.fieldLink RX4 15 "LayoutPress$Node" "value" "I", Cond.fieldLink RX4 19 "LayoutPress$Node" "first" "LLayoutPress$Node;", Cond.fieldLink RX4 23 "LayoutPress$Node" "second" "LLayoutPress$Node;", Cond.methodLink RX4 61 yX4_measureTwo]
def wsX10_flat_r2 : List Cond := [Cond.instanceMethod yX4_measureTwo, Cond.selects RX4 yX4_measureTwo yX4_measureTwo, Cond.code yX4_measureTwo cX4_measureTwo 3 none, Cond.fieldLink RX4 26 "LayoutPress$Node" "leaves" "I", Cond.fieldLink RX4 81 "LayoutPress$Node" "within" "J", Cond.fieldLink RX4 52 "LayoutPress$Node" "traits" "I", Cond.fieldLink RX4 45 "LayoutPress$Node" "indents" "Z", Cond.fieldLink RX4 104 "LayoutPress$Kind" "BROKEN" "LLayoutPress$Kind;", Cond.fieldLink RX4 107 "LayoutPress$Kind" "PAIR" "LLayoutPress$Kind;", Cond.fieldLink RX4 29 "LayoutPress$Node" "flatWidth" "I", Cond.fieldLink RX4 38 "LayoutPress$Node" "barred" "Z", Cond.fieldLink RX4 91 "LayoutPress$Node" "mostWays" "I", Cond.fieldLink RX4 85 "LayoutPress$Node" "mostFlatWays" "I", Cond.fieldLink RX4 55 "LayoutPress$Node" "layoutCount" "I", Cond.fieldLink RX4 58 "LayoutPress$Node" "flatLayoutCount" "I", Cond.fieldLink RX4 110 "LayoutPress$Kind" "CHOICE" "LLayoutPress$Kind;", Cond.methodLink RX4 94 Lib.Math.max.name, Cond.static Lib.Math.max.name, Cond.initialized "java/lang/Math", Cond.code Lib.Math.max.name Lib.Math.max.code 2 (some .int), Cond.methodLink RX4 100 yX4_atMostCounted, Cond.static yX4_atMostCounted, Cond.code yX4_atMostCounted cX4_atMostCounted 2 (some .int), Cond.constantLong RX4 113 (1000000)]
def wsX10_flat_r3 : List Cond := [Cond.constant RX4 115 (1000000), Cond.methodLink RX4 65 yX4_measureOne, Cond.instanceMethod yX4_measureOne, Cond.selects RX4 yX4_measureOne yX4_measureOne, Cond.code yX4_measureOne cX4_measureOne 3 none, Cond.fieldLink RX4 72 "LayoutPress$Kind" "FLAT" "LLayoutPress$Kind;", Cond.fieldLink RX4 75 "LayoutPress$Kind" "CELL" "LLayoutPress$Kind;", Cond.fieldLink RX4 78 "LayoutPress$Kind" "ALIGN" "LLayoutPress$Kind;", Cond.fieldLink RX4 88 "LayoutPress$Kind" "GROUP" "LLayoutPress$Kind;", Cond.methodLink RX10 69 yX10_add, Cond.instanceMethod yX10_add, Cond.selects RX10 yX10_add yX10_add, Cond.code yX10_add cX10_add 2 (some .int), Cond.classLink RX10 126 "java/lang/IllegalStateException", Cond.initialized "java/lang/IllegalStateException", Cond.methodLink RX10 252 yX4_take, Cond.instanceMethod yX4_take, Cond.selects RX4 yX4_take yX4_take, Cond.code yX4_take cX4_take 2 none, Cond.fieldLink RX4 116 "LayoutPress$Node" "number" "I", Cond.methodLink RX4 119 yX4_bit, Cond.instanceMethod yX4_bit, Cond.selects RX4 yX4_bit yX4_bit, Cond.code yX4_bit cX4_bit 1 (some .long)]
def wsX10_flat : List Cond := .code yX10_flat cX10_flat 2 (some .int) :: ((wsX10_flat_r1 ++ (wsX10_flat_r2 ++ wsX10_flat_r3)) ++ wsX40 ++ wsX100 ++ (vx_atS RX10 212 "java/lang/IndexOutOfBoundsException" ["java/lang/RuntimeException", "java/lang/Exception"]).filter goodWord ++ (vx_atS RX10 130 "java/lang/IllegalStateException" ["java/lang/RuntimeException", "java/lang/Exception"]).filter goodWord)
def wsX10_broken_r1 : List Cond := [Cond.classLink RX10 9 RX4, Cond.instantiable RX4 15, Cond.initialized RX4, Cond.fieldLink RX10 113 "LayoutPress$Kind" "BROKEN" "LLayoutPress$Kind;", Cond.methodLink RX10 91 yX10_nodeOf, Cond.instanceMethod yX10_nodeOf, Cond.selects RX10 yX10_nodeOf yX10_nodeOf, Cond.initialized RX10, Cond.code yX10_nodeOf cX10_nodeOf 3 (some (.object "LayoutPress$Node")), Cond.classLink RX10 208 "java/lang/IndexOutOfBoundsException", Cond.initialized "java/lang/IndexOutOfBoundsException", Cond.fieldLink RX10 15 "LayoutPress" "madeCount" "I", Cond.fieldLink RX10 11 "LayoutPress" "made" "[LLayoutPress$Node;", Cond.methodLink RX10 95 yX4_init_, Cond.instanceMethod yX4_init_, Cond.code yX4_init_ cX4_init_ 5 none, Cond.methodLink RX4 3 objectInit, Cond.instanceMethod objectInit, Cond.code objectInit ⟨#[0xb1]⟩ 1 none, Cond.fieldLink RX4 9 "LayoutPress$Node" "kind" "LLayoutPress$Kind;", Cond.fieldLink RX4 15 "LayoutPress$Node" "value" "I", Cond.fieldLink RX4 19 "LayoutPress$Node" "first" "LLayoutPress$Node;", Cond.fieldLink RX4 23 "LayoutPress$Node" "second" "LLayoutPress$Node;", Cond.methodLink RX4 61 yX4_measureTwo]
def wsX10_broken_r2 : List Cond := [Cond.instanceMethod yX4_measureTwo, Cond.selects RX4 yX4_measureTwo yX4_measureTwo, Cond.code yX4_measureTwo cX4_measureTwo 3 none, Cond.fieldLink RX4 26 "LayoutPress$Node" "leaves" "I", Cond.fieldLink RX4 81 "LayoutPress$Node" "within" "J", Cond.fieldLink RX4 52 "LayoutPress$Node" "traits" "I", Cond.fieldLink RX4 45 "LayoutPress$Node" "indents" "Z", Cond.fieldLink RX4 104 "LayoutPress$Kind" "BROKEN" "LLayoutPress$Kind;", Cond.fieldLink RX4 107 "LayoutPress$Kind" "PAIR" "LLayoutPress$Kind;", Cond.fieldLink RX4 29 "LayoutPress$Node" "flatWidth" "I", Cond.fieldLink RX4 38 "LayoutPress$Node" "barred" "Z", Cond.fieldLink RX4 91 "LayoutPress$Node" "mostWays" "I", Cond.fieldLink RX4 85 "LayoutPress$Node" "mostFlatWays" "I", Cond.fieldLink RX4 55 "LayoutPress$Node" "layoutCount" "I", Cond.fieldLink RX4 58 "LayoutPress$Node" "flatLayoutCount" "I", Cond.fieldLink RX4 110 "LayoutPress$Kind" "CHOICE" "LLayoutPress$Kind;", Cond.methodLink RX4 94 Lib.Math.max.name, Cond.static Lib.Math.max.name, Cond.initialized "java/lang/Math", Cond.code Lib.Math.max.name Lib.Math.max.code 2 (some .int), Cond.methodLink RX4 100 yX4_atMostCounted, Cond.static yX4_atMostCounted, Cond.code yX4_atMostCounted cX4_atMostCounted 2 (some .int), Cond.constantLong RX4 113 (1000000)]
def wsX10_broken_r3 : List Cond := [Cond.constant RX4 115 (1000000), Cond.methodLink RX4 65 yX4_measureOne, Cond.instanceMethod yX4_measureOne, Cond.selects RX4 yX4_measureOne yX4_measureOne, Cond.code yX4_measureOne cX4_measureOne 3 none, Cond.fieldLink RX4 72 "LayoutPress$Kind" "FLAT" "LLayoutPress$Kind;", Cond.fieldLink RX4 75 "LayoutPress$Kind" "CELL" "LLayoutPress$Kind;", Cond.fieldLink RX4 78 "LayoutPress$Kind" "ALIGN" "LLayoutPress$Kind;", Cond.fieldLink RX4 88 "LayoutPress$Kind" "GROUP" "LLayoutPress$Kind;", Cond.methodLink RX10 69 yX10_add, Cond.instanceMethod yX10_add, Cond.selects RX10 yX10_add yX10_add, Cond.code yX10_add cX10_add 2 (some .int), Cond.classLink RX10 126 "java/lang/IllegalStateException", Cond.initialized "java/lang/IllegalStateException", Cond.methodLink RX10 252 yX4_take, Cond.instanceMethod yX4_take, Cond.selects RX4 yX4_take yX4_take, Cond.code yX4_take cX4_take 2 none, Cond.fieldLink RX4 116 "LayoutPress$Node" "number" "I", Cond.methodLink RX4 119 yX4_bit, Cond.instanceMethod yX4_bit, Cond.selects RX4 yX4_bit yX4_bit, Cond.code yX4_bit cX4_bit 1 (some .long)]
def wsX10_broken : List Cond := .code yX10_broken cX10_broken 3 (some .int) :: ((wsX10_broken_r1 ++ (wsX10_broken_r2 ++ wsX10_broken_r3)) ++ wsX40 ++ wsX100 ++ (vx_atS RX10 212 "java/lang/IndexOutOfBoundsException" ["java/lang/RuntimeException", "java/lang/Exception"]).filter goodWord ++ (vx_atS RX10 130 "java/lang/IllegalStateException" ["java/lang/RuntimeException", "java/lang/Exception"]).filter goodWord)
def wsX10_price_r1 : List Cond := [Cond.classLink RX10 9 RX4, Cond.instantiable RX4 15, Cond.initialized RX4, Cond.fieldLink RX10 116 "LayoutPress$Kind" "PRICE" "LLayoutPress$Kind;", Cond.methodLink RX10 91 yX10_nodeOf, Cond.instanceMethod yX10_nodeOf, Cond.selects RX10 yX10_nodeOf yX10_nodeOf, Cond.initialized RX10, Cond.code yX10_nodeOf cX10_nodeOf 3 (some (.object "LayoutPress$Node")), Cond.classLink RX10 208 "java/lang/IndexOutOfBoundsException", Cond.initialized "java/lang/IndexOutOfBoundsException", Cond.fieldLink RX10 15 "LayoutPress" "madeCount" "I", Cond.fieldLink RX10 11 "LayoutPress" "made" "[LLayoutPress$Node;", Cond.methodLink RX10 56 yX10_checkRange, Cond.static yX10_checkRange, Cond.code yX10_checkRange cX10_checkRange 3 none, Cond.classLink RX10 234 "java/lang/IllegalArgumentException", Cond.initialized "java/lang/IllegalArgumentException", Cond.methodLink RX10 95 yX4_init_, Cond.instanceMethod yX4_init_, Cond.code yX4_init_ cX4_init_ 5 none, Cond.methodLink RX4 3 objectInit, Cond.instanceMethod objectInit, Cond.code objectInit ⟨#[0xb1]⟩ 1 none]
def wsX10_price_r2 : List Cond := [Cond.fieldLink RX4 9 "LayoutPress$Node" "kind" "LLayoutPress$Kind;", Cond.fieldLink RX4 15 "LayoutPress$Node" "value" "I", Cond.fieldLink RX4 19 "LayoutPress$Node" "first" "LLayoutPress$Node;", Cond.fieldLink RX4 23 "LayoutPress$Node" "second" "LLayoutPress$Node;", Cond.methodLink RX4 61 yX4_measureTwo, Cond.instanceMethod yX4_measureTwo, Cond.selects RX4 yX4_measureTwo yX4_measureTwo, Cond.code yX4_measureTwo cX4_measureTwo 3 none, Cond.fieldLink RX4 26 "LayoutPress$Node" "leaves" "I", Cond.fieldLink RX4 81 "LayoutPress$Node" "within" "J", Cond.fieldLink RX4 52 "LayoutPress$Node" "traits" "I", Cond.fieldLink RX4 45 "LayoutPress$Node" "indents" "Z", Cond.fieldLink RX4 104 "LayoutPress$Kind" "BROKEN" "LLayoutPress$Kind;", Cond.fieldLink RX4 107 "LayoutPress$Kind" "PAIR" "LLayoutPress$Kind;", Cond.fieldLink RX4 29 "LayoutPress$Node" "flatWidth" "I", Cond.fieldLink RX4 38 "LayoutPress$Node" "barred" "Z", Cond.fieldLink RX4 91 "LayoutPress$Node" "mostWays" "I", Cond.fieldLink RX4 85 "LayoutPress$Node" "mostFlatWays" "I", Cond.fieldLink RX4 55 "LayoutPress$Node" "layoutCount" "I", Cond.fieldLink RX4 58 "LayoutPress$Node" "flatLayoutCount" "I", Cond.fieldLink RX4 110 "LayoutPress$Kind" "CHOICE" "LLayoutPress$Kind;", Cond.methodLink RX4 94 Lib.Math.max.name, Cond.static Lib.Math.max.name, Cond.initialized "java/lang/Math"]
def wsX10_price_r3 : List Cond := [Cond.code Lib.Math.max.name Lib.Math.max.code 2 (some .int), Cond.methodLink RX4 100 yX4_atMostCounted, Cond.static yX4_atMostCounted, Cond.code yX4_atMostCounted cX4_atMostCounted 2 (some .int), Cond.constantLong RX4 113 (1000000), Cond.constant RX4 115 (1000000), Cond.methodLink RX4 65 yX4_measureOne, Cond.instanceMethod yX4_measureOne, Cond.selects RX4 yX4_measureOne yX4_measureOne, Cond.code yX4_measureOne cX4_measureOne 3 none, Cond.fieldLink RX4 72 "LayoutPress$Kind" "FLAT" "LLayoutPress$Kind;", Cond.fieldLink RX4 75 "LayoutPress$Kind" "CELL" "LLayoutPress$Kind;", Cond.fieldLink RX4 78 "LayoutPress$Kind" "ALIGN" "LLayoutPress$Kind;", Cond.fieldLink RX4 88 "LayoutPress$Kind" "GROUP" "LLayoutPress$Kind;", Cond.methodLink RX10 69 yX10_add, Cond.instanceMethod yX10_add, Cond.selects RX10 yX10_add yX10_add, Cond.code yX10_add cX10_add 2 (some .int), Cond.classLink RX10 126 "java/lang/IllegalStateException", Cond.initialized "java/lang/IllegalStateException", Cond.methodLink RX10 252 yX4_take, Cond.instanceMethod yX4_take, Cond.selects RX4 yX4_take yX4_take, Cond.code yX4_take cX4_take 2 none]
def wsX10_price_r4 : List Cond := [Cond.fieldLink RX4 116 "LayoutPress$Node" "number" "I", Cond.methodLink RX4 119 yX4_bit, Cond.instanceMethod yX4_bit, Cond.selects RX4 yX4_bit yX4_bit, Cond.code yX4_bit cX4_bit 1 (some .long)]
def wsX10_price : List Cond := .code yX10_price cX10_price 4 (some .int) :: ((wsX10_price_r1 ++ (wsX10_price_r2 ++ (wsX10_price_r3 ++ wsX10_price_r4))) ++ wsX40 ++ wsX100 ++ (vx_atS RX10 212 "java/lang/IndexOutOfBoundsException" ["java/lang/RuntimeException", "java/lang/Exception"]).filter goodWord ++ (vx_atS RX10 238 "java/lang/IllegalArgumentException" ["java/lang/RuntimeException", "java/lang/Exception"]).filter goodWord ++ (vx_atS RX10 130 "java/lang/IllegalStateException" ["java/lang/RuntimeException", "java/lang/Exception"]).filter goodWord)
def wsX10_keep_r1 : List Cond := [Cond.classLink RX10 9 RX4, Cond.instantiable RX4 15, Cond.initialized RX4, Cond.fieldLink RX10 119 "LayoutPress$Kind" "KEEP" "LLayoutPress$Kind;", Cond.methodLink RX10 91 yX10_nodeOf, Cond.instanceMethod yX10_nodeOf, Cond.selects RX10 yX10_nodeOf yX10_nodeOf, Cond.initialized RX10, Cond.code yX10_nodeOf cX10_nodeOf 3 (some (.object "LayoutPress$Node")), Cond.classLink RX10 208 "java/lang/IndexOutOfBoundsException", Cond.initialized "java/lang/IndexOutOfBoundsException", Cond.fieldLink RX10 15 "LayoutPress" "madeCount" "I", Cond.fieldLink RX10 11 "LayoutPress" "made" "[LLayoutPress$Node;", Cond.methodLink RX10 56 yX10_checkRange, Cond.static yX10_checkRange, Cond.code yX10_checkRange cX10_checkRange 3 none, Cond.classLink RX10 234 "java/lang/IllegalArgumentException", Cond.initialized "java/lang/IllegalArgumentException", Cond.methodLink RX10 95 yX4_init_, Cond.instanceMethod yX4_init_, Cond.code yX4_init_ cX4_init_ 5 none, Cond.methodLink RX4 3 objectInit, Cond.instanceMethod objectInit, Cond.code objectInit ⟨#[0xb1]⟩ 1 none]
def wsX10_keep_r2 : List Cond := [Cond.fieldLink RX4 9 "LayoutPress$Node" "kind" "LLayoutPress$Kind;", Cond.fieldLink RX4 15 "LayoutPress$Node" "value" "I", Cond.fieldLink RX4 19 "LayoutPress$Node" "first" "LLayoutPress$Node;", Cond.fieldLink RX4 23 "LayoutPress$Node" "second" "LLayoutPress$Node;", Cond.methodLink RX4 61 yX4_measureTwo, Cond.instanceMethod yX4_measureTwo, Cond.selects RX4 yX4_measureTwo yX4_measureTwo, Cond.code yX4_measureTwo cX4_measureTwo 3 none, Cond.fieldLink RX4 26 "LayoutPress$Node" "leaves" "I", Cond.fieldLink RX4 81 "LayoutPress$Node" "within" "J", Cond.fieldLink RX4 52 "LayoutPress$Node" "traits" "I", Cond.fieldLink RX4 45 "LayoutPress$Node" "indents" "Z", Cond.fieldLink RX4 104 "LayoutPress$Kind" "BROKEN" "LLayoutPress$Kind;", Cond.fieldLink RX4 107 "LayoutPress$Kind" "PAIR" "LLayoutPress$Kind;", Cond.fieldLink RX4 29 "LayoutPress$Node" "flatWidth" "I", Cond.fieldLink RX4 38 "LayoutPress$Node" "barred" "Z", Cond.fieldLink RX4 91 "LayoutPress$Node" "mostWays" "I", Cond.fieldLink RX4 85 "LayoutPress$Node" "mostFlatWays" "I", Cond.fieldLink RX4 55 "LayoutPress$Node" "layoutCount" "I", Cond.fieldLink RX4 58 "LayoutPress$Node" "flatLayoutCount" "I", Cond.fieldLink RX4 110 "LayoutPress$Kind" "CHOICE" "LLayoutPress$Kind;", Cond.methodLink RX4 94 Lib.Math.max.name, Cond.static Lib.Math.max.name, Cond.initialized "java/lang/Math"]
def wsX10_keep_r3 : List Cond := [Cond.code Lib.Math.max.name Lib.Math.max.code 2 (some .int), Cond.methodLink RX4 100 yX4_atMostCounted, Cond.static yX4_atMostCounted, Cond.code yX4_atMostCounted cX4_atMostCounted 2 (some .int), Cond.constantLong RX4 113 (1000000), Cond.constant RX4 115 (1000000), Cond.methodLink RX4 65 yX4_measureOne, Cond.instanceMethod yX4_measureOne, Cond.selects RX4 yX4_measureOne yX4_measureOne, Cond.code yX4_measureOne cX4_measureOne 3 none, Cond.fieldLink RX4 72 "LayoutPress$Kind" "FLAT" "LLayoutPress$Kind;", Cond.fieldLink RX4 75 "LayoutPress$Kind" "CELL" "LLayoutPress$Kind;", Cond.fieldLink RX4 78 "LayoutPress$Kind" "ALIGN" "LLayoutPress$Kind;", Cond.fieldLink RX4 88 "LayoutPress$Kind" "GROUP" "LLayoutPress$Kind;", Cond.methodLink RX10 69 yX10_add, Cond.instanceMethod yX10_add, Cond.selects RX10 yX10_add yX10_add, Cond.code yX10_add cX10_add 2 (some .int), Cond.classLink RX10 126 "java/lang/IllegalStateException", Cond.initialized "java/lang/IllegalStateException", Cond.methodLink RX10 252 yX4_take, Cond.instanceMethod yX4_take, Cond.selects RX4 yX4_take yX4_take, Cond.code yX4_take cX4_take 2 none]
def wsX10_keep_r4 : List Cond := [Cond.fieldLink RX4 116 "LayoutPress$Node" "number" "I", Cond.methodLink RX4 119 yX4_bit, Cond.instanceMethod yX4_bit, Cond.selects RX4 yX4_bit yX4_bit, Cond.code yX4_bit cX4_bit 1 (some .long)]
def wsX10_keep : List Cond := .code yX10_keep cX10_keep 4 (some .int) :: ((wsX10_keep_r1 ++ (wsX10_keep_r2 ++ (wsX10_keep_r3 ++ wsX10_keep_r4))) ++ wsX40 ++ wsX100 ++ (vx_atS RX10 212 "java/lang/IndexOutOfBoundsException" ["java/lang/RuntimeException", "java/lang/Exception"]).filter goodWord ++ (vx_atS RX10 238 "java/lang/IllegalArgumentException" ["java/lang/RuntimeException", "java/lang/Exception"]).filter goodWord ++ (vx_atS RX10 130 "java/lang/IllegalStateException" ["java/lang/RuntimeException", "java/lang/Exception"]).filter goodWord)
def wsX10_cell_r1 : List Cond := [Cond.classLink RX10 126 "java/lang/IllegalStateException", Cond.initialized "java/lang/IllegalStateException", Cond.classLink RX10 9 RX4, Cond.instantiable RX4 15, Cond.initialized RX4, Cond.fieldLink RX10 133 "LayoutPress$Kind" "CELL" "LLayoutPress$Kind;", Cond.methodLink RX10 91 yX10_nodeOf, Cond.instanceMethod yX10_nodeOf, Cond.selects RX10 yX10_nodeOf yX10_nodeOf, Cond.initialized RX10, Cond.code yX10_nodeOf cX10_nodeOf 3 (some (.object "LayoutPress$Node")), Cond.classLink RX10 208 "java/lang/IndexOutOfBoundsException", Cond.initialized "java/lang/IndexOutOfBoundsException", Cond.fieldLink RX10 15 "LayoutPress" "madeCount" "I", Cond.fieldLink RX10 11 "LayoutPress" "made" "[LLayoutPress$Node;", Cond.methodLink RX10 56 yX10_checkRange, Cond.static yX10_checkRange, Cond.code yX10_checkRange cX10_checkRange 3 none, Cond.classLink RX10 234 "java/lang/IllegalArgumentException", Cond.initialized "java/lang/IllegalArgumentException", Cond.methodLink RX10 95 yX4_init_, Cond.instanceMethod yX4_init_, Cond.code yX4_init_ cX4_init_ 5 none, Cond.methodLink RX4 3 objectInit]
def wsX10_cell_r2 : List Cond := [Cond.instanceMethod objectInit, Cond.code objectInit ⟨#[0xb1]⟩ 1 none, Cond.fieldLink RX4 9 "LayoutPress$Node" "kind" "LLayoutPress$Kind;", Cond.fieldLink RX4 15 "LayoutPress$Node" "value" "I", Cond.fieldLink RX4 19 "LayoutPress$Node" "first" "LLayoutPress$Node;", Cond.fieldLink RX4 23 "LayoutPress$Node" "second" "LLayoutPress$Node;", Cond.methodLink RX4 61 yX4_measureTwo, Cond.instanceMethod yX4_measureTwo, Cond.selects RX4 yX4_measureTwo yX4_measureTwo, Cond.code yX4_measureTwo cX4_measureTwo 3 none, Cond.fieldLink RX4 26 "LayoutPress$Node" "leaves" "I", Cond.fieldLink RX4 81 "LayoutPress$Node" "within" "J", Cond.fieldLink RX4 52 "LayoutPress$Node" "traits" "I", Cond.fieldLink RX4 45 "LayoutPress$Node" "indents" "Z", Cond.fieldLink RX4 104 "LayoutPress$Kind" "BROKEN" "LLayoutPress$Kind;", Cond.fieldLink RX4 107 "LayoutPress$Kind" "PAIR" "LLayoutPress$Kind;", Cond.fieldLink RX4 29 "LayoutPress$Node" "flatWidth" "I", Cond.fieldLink RX4 38 "LayoutPress$Node" "barred" "Z", Cond.fieldLink RX4 91 "LayoutPress$Node" "mostWays" "I", Cond.fieldLink RX4 85 "LayoutPress$Node" "mostFlatWays" "I", Cond.fieldLink RX4 55 "LayoutPress$Node" "layoutCount" "I", Cond.fieldLink RX4 58 "LayoutPress$Node" "flatLayoutCount" "I", Cond.fieldLink RX4 110 "LayoutPress$Kind" "CHOICE" "LLayoutPress$Kind;", Cond.methodLink RX4 94 Lib.Math.max.name]
def wsX10_cell_r3 : List Cond := [Cond.static Lib.Math.max.name, Cond.initialized "java/lang/Math", Cond.code Lib.Math.max.name Lib.Math.max.code 2 (some .int), Cond.methodLink RX4 100 yX4_atMostCounted, Cond.static yX4_atMostCounted, Cond.code yX4_atMostCounted cX4_atMostCounted 2 (some .int), Cond.constantLong RX4 113 (1000000), Cond.constant RX4 115 (1000000), Cond.methodLink RX4 65 yX4_measureOne, Cond.instanceMethod yX4_measureOne, Cond.selects RX4 yX4_measureOne yX4_measureOne, Cond.code yX4_measureOne cX4_measureOne 3 none, Cond.fieldLink RX4 72 "LayoutPress$Kind" "FLAT" "LLayoutPress$Kind;", Cond.fieldLink RX4 75 "LayoutPress$Kind" "CELL" "LLayoutPress$Kind;", Cond.fieldLink RX4 78 "LayoutPress$Kind" "ALIGN" "LLayoutPress$Kind;", Cond.fieldLink RX4 88 "LayoutPress$Kind" "GROUP" "LLayoutPress$Kind;", Cond.methodLink RX10 69 yX10_add, Cond.instanceMethod yX10_add, Cond.selects RX10 yX10_add yX10_add, Cond.code yX10_add cX10_add 2 (some .int), Cond.methodLink RX10 252 yX4_take, Cond.instanceMethod yX4_take, Cond.selects RX4 yX4_take yX4_take, Cond.code yX4_take cX4_take 2 none]
def wsX10_cell_r4 : List Cond := [Cond.fieldLink RX4 116 "LayoutPress$Node" "number" "I", Cond.methodLink RX4 119 yX4_bit, Cond.instanceMethod yX4_bit, Cond.selects RX4 yX4_bit yX4_bit, Cond.code yX4_bit cX4_bit 1 (some .long)]
def wsX10_cell : List Cond := .code yX10_cell cX10_cell 5 (some .int) :: ((wsX10_cell_r1 ++ (wsX10_cell_r2 ++ (wsX10_cell_r3 ++ wsX10_cell_r4))) ++ wsX40 ++ wsX100 ++ (vx_atS RX10 130 "java/lang/IllegalStateException" ["java/lang/RuntimeException", "java/lang/Exception"]).filter goodWord ++ (vx_atS RX10 212 "java/lang/IndexOutOfBoundsException" ["java/lang/RuntimeException", "java/lang/Exception"]).filter goodWord ++ (vx_atS RX10 238 "java/lang/IllegalArgumentException" ["java/lang/RuntimeException", "java/lang/Exception"]).filter goodWord)
def wsX10_nodes : List Cond := .code yX10_nodes cX10_nodes 1 (some .int) :: ([.fieldLink RX10 15 "LayoutPress" "madeCount" "I"] ++ wsX100)
def wsX10_size : List Cond := .code yX10_size cX10_size 2 (some .int) :: ([.methodLink RX10 91 yX10_nodeOf, .instanceMethod yX10_nodeOf, .selects RX10 yX10_nodeOf yX10_nodeOf, .initialized RX10, .code yX10_nodeOf cX10_nodeOf 3 (some (.object "LayoutPress$Node")), .classLink RX10 208 "java/lang/IndexOutOfBoundsException", .initialized "java/lang/IndexOutOfBoundsException", .fieldLink RX10 15 "LayoutPress" "madeCount" "I", .fieldLink RX10 11 "LayoutPress" "made" "[LLayoutPress$Node;"] ++ wsX40 ++ wsX100 ++ (vx_atS RX10 212 "java/lang/IndexOutOfBoundsException" ["java/lang/RuntimeException", "java/lang/Exception"]).filter goodWord)
def wsX10_layouts : List Cond := .code yX10_layouts cX10_layouts 2 (some .int) :: ([.methodLink RX10 91 yX10_nodeOf, .instanceMethod yX10_nodeOf, .selects RX10 yX10_nodeOf yX10_nodeOf, .initialized RX10, .code yX10_nodeOf cX10_nodeOf 3 (some (.object "LayoutPress$Node")), .classLink RX10 208 "java/lang/IndexOutOfBoundsException", .initialized "java/lang/IndexOutOfBoundsException", .fieldLink RX10 15 "LayoutPress" "madeCount" "I", .fieldLink RX10 11 "LayoutPress" "made" "[LLayoutPress$Node;"] ++ wsX40 ++ wsX100 ++ (vx_atS RX10 212 "java/lang/IndexOutOfBoundsException" ["java/lang/RuntimeException", "java/lang/Exception"]).filter goodWord)
def wsX10_print_r1 : List Cond := [Cond.classLink RX10 126 "java/lang/IllegalStateException", Cond.initialized "java/lang/IllegalStateException", Cond.fieldLink RX10 31 "LayoutPress" "search" "LLayoutPress$Search;", Cond.fieldLink RX10 38 "LayoutPress" "hand" "LLayoutPress$Hand;", Cond.methodLink RX10 91 yX10_nodeOf, Cond.instanceMethod yX10_nodeOf, Cond.selects RX10 yX10_nodeOf yX10_nodeOf, Cond.initialized RX10, Cond.code yX10_nodeOf cX10_nodeOf 3 (some (.object "LayoutPress$Node")), Cond.classLink RX10 208 "java/lang/IndexOutOfBoundsException", Cond.initialized "java/lang/IndexOutOfBoundsException", Cond.fieldLink RX10 15 "LayoutPress" "madeCount" "I", Cond.fieldLink RX10 11 "LayoutPress" "made" "[LLayoutPress$Node;", Cond.methodLink RX10 142 yX10_agreeOn, Cond.instanceMethod yX10_agreeOn, Cond.selects RX10 yX10_agreeOn yX10_agreeOn, Cond.code yX10_agreeOn cX10_agreeOn 5 none, Cond.fieldLink RX10 22 "LayoutPress" "terms" "LLayoutPress$Terms;", Cond.methodLink RX10 56 yX10_checkRange, Cond.static yX10_checkRange, Cond.code yX10_checkRange cX10_checkRange 3 none, Cond.classLink RX10 234 "java/lang/IllegalArgumentException", Cond.initialized "java/lang/IllegalArgumentException", Cond.methodLink RX10 255 yX9_set]
def wsX10_print_r2 : List Cond := [Cond.instanceMethod yX9_set, Cond.selects RX9 yX9_set yX9_set, Cond.initialized RX9, Cond.code yX9_set cX9_set 4 none, Cond.fieldLink RX9 15 "LayoutPress$Terms" "width" "I", Cond.fieldLink RX9 19 "LayoutPress$Terms" "ribbon" "I", Cond.fieldLink RX9 22 "LayoutPress$Terms" "linePrice" "I", Cond.methodLink RX10 258 yX9_measureCells, Cond.instanceMethod yX9_measureCells, Cond.selects RX9 yX9_measureCells yX9_measureCells, Cond.code yX9_measureCells cX9_measureCells 5 none, Cond.fieldLink RX9 9 "LayoutPress$Terms" "widest" "[I", Cond.fieldLink RX9 37 "LayoutPress$Kind" "CELL" "LLayoutPress$Kind;", Cond.methodLink RX9 25 yJ7_fill_53178, Cond.static yJ7_fill_53178, Cond.initialized RJ7, Cond.code yJ7_fill_53178 cJ7_fill_53178 4 none, Cond.methodLink RX9 46 yX4_bit, Cond.instanceMethod yX4_bit, Cond.selects RX4 yX4_bit yX4_bit, Cond.initialized RX4, Cond.code yX4_bit cX4_bit 1 (some .long), Cond.fieldLink RX4 116 "LayoutPress$Node" "number" "I", Cond.methodLink RX9 50 yX9_widen]
def wsX10_print_r3 : List Cond := [Cond.instanceMethod yX9_widen, Cond.selects RX9 yX9_widen yX9_widen, Cond.code yX9_widen cX9_widen 3 none, Cond.methodLink RX10 146 yX6_findBest, Cond.instanceMethod yX6_findBest, Cond.selects RX6 yX6_findBest yX6_findBest, Cond.initialized RX6, Cond.code yX6_findBest cX6_findBest 5 (some .boolean), Cond.fieldLink RX6 31 "LayoutPress$Search" "hasFound" "Z", Cond.fieldLink RX6 27 "LayoutPress$Search" "states" "LLayoutPress$States;", Cond.constantLong RX6 39 (-1), Cond.constantLong RX6 48 (8), Cond.constantLong RX6 50 (7), Cond.methodLink RX6 52 Lib.MathLoose.max_long.x, Cond.static Lib.MathLoose.max_long.x, Cond.initialized "java/lang/Math", Cond.code Lib.MathLoose.max_long.x Lib.MathLoose.max_long.code 4 (some .long), Cond.methodLink RX6 44 yX6_searchInParts, Cond.instanceMethod yX6_searchInParts, Cond.selects RX6 yX6_searchInParts yX6_searchInParts, Cond.code yX6_searchInParts cX6_searchInParts 4 none, Cond.fieldLink RX6 18 "LayoutPress$Search" "held" "LLayoutPress$Held;", Cond.constant RX6 61 (1073741824), Cond.methodLink RX6 58 yX2_begin]
def wsX10_print_r4 : List Cond := [Cond.instanceMethod yX2_begin, Cond.selects RX2 yX2_begin yX2_begin, Cond.initialized RX2, Cond.code yX2_begin cX2_begin 1 none, Cond.fieldLink RX2 24 "LayoutPress$Held" "level" "I", Cond.fieldLink RX2 28 "LayoutPress$Held" "count" "I", Cond.fieldLink RX2 11 "LayoutPress$Held" "places" "[I", Cond.fieldLink RX2 15 "LayoutPress$Held" "ways" "[I", Cond.fieldLink RX2 21 "LayoutPress$Held" "begins" "[I", Cond.methodLink RX6 62 yX8_begin, Cond.instanceMethod yX8_begin, Cond.selects RX8 yX8_begin yX8_begin, Cond.initialized RX8, Cond.code yX8_begin cX8_begin 1 none, Cond.fieldLink RX8 57 "LayoutPress$States" "isFull" "Z", Cond.fieldLink RX8 41 "LayoutPress$States" "floor" "[J", Cond.fieldLink RX8 19 "LayoutPress$States" "column" "[I", Cond.fieldLink RX8 15 "LayoutPress$States" "around" "[I", Cond.fieldLink RX8 22 "LayoutPress$States" "first" "[I", Cond.fieldLink RX8 25 "LayoutPress$States" "hasRemark" "[I", Cond.fieldLink RX8 28 "LayoutPress$States" "paid" "[J", Cond.fieldLink RX8 32 "LayoutPress$States" "weight" "[J", Cond.fieldLink RX8 35 "LayoutPress$States" "ways" "[I", Cond.fieldLink RX8 38 "LayoutPress$States" "told" "[I"]
def wsX10_print_r5 : List Cond := [Cond.fieldLink RX8 61 "LayoutPress$States" "top" "I", Cond.methodLink RX6 63 yX6_advance, Cond.instanceMethod yX6_advance, Cond.selects RX6 yX6_advance yX6_advance, Cond.code yX6_advance cX6_advance 8 none, Cond.fieldLink RX6 106 "LayoutPress$1" "$SwitchMap$LayoutPress$Kind" "[I", Cond.fieldLink RX6 9 "LayoutPress$Search" "terms" "LLayoutPress$Terms;", Cond.methodLink RX6 117 ⟨"LayoutPress$Kind", "ordinal", "()I"⟩, Cond.sameMethod "LayoutPress$Kind" "java/lang/Enum" "ordinal" "()I", Cond.selects RX3 ⟨"LayoutPress$Kind", "ordinal", "()I"⟩ yJx29ce0_ordinal_8abf5, Cond.instanceMethod yJx29ce0_ordinal_8abf5, Cond.initialized RJx29ce0, Cond.code yJx29ce0_ordinal_8abf5 cJx29ce0_ordinal_8abf5 1 (some .int), Cond.fieldLink RJx29ce0 7 "java/lang/Enum" "ordinal" "I", Cond.methodLink RX6 136 yX6_advanceAlign, Cond.instanceMethod yX6_advanceAlign, Cond.selects RX6 yX6_advanceAlign yX6_advanceAlign, Cond.methodLink RX6 139 yX6_fork, Cond.instanceMethod yX6_fork, Cond.selects RX6 yX6_fork yX6_fork, Cond.methodLink RX6 142 yX6_pay, Cond.instanceMethod yX6_pay, Cond.selects RX6 yX6_pay yX6_pay, Cond.code yX6_pay cX6_pay 4 none]
def wsX10_print_r6 : List Cond := [Cond.methodLink RX6 220 yX8_addCost, Cond.instanceMethod yX8_addCost, Cond.selects RX8 yX8_addCost yX8_addCost, Cond.code yX8_addCost cX8_addCost 4 none, Cond.constantLong RX8 120 (32), Cond.methodLink RX6 224 yX8_dropHeavy, Cond.instanceMethod yX8_dropHeavy, Cond.selects RX8 yX8_dropHeavy yX8_dropHeavy, Cond.code yX8_dropHeavy cX8_dropHeavy 4 none, Cond.methodLink RX8 90 yX8_isHeavy, Cond.instanceMethod yX8_isHeavy, Cond.selects RX8 yX8_isHeavy yX8_isHeavy, Cond.code yX8_isHeavy cX8_isHeavy 5 (some .boolean), Cond.fieldLink RX8 98 "LayoutPress$States" "limit" "J", Cond.fieldLink RX8 102 "LayoutPress$States" "leastDropped" "J", Cond.constantLong RX8 105 (-1), Cond.methodLink RX8 94 yX8_fullWeight, Cond.instanceMethod yX8_fullWeight, Cond.selects RX8 yX8_fullWeight yX8_fullWeight, Cond.code yX8_fullWeight cX8_fullWeight 3 (some .long), Cond.methodLink RX8 86 yX8_copyState, Cond.instanceMethod yX8_copyState, Cond.selects RX8 yX8_copyState yX8_copyState, Cond.code yX8_copyState cX8_copyState 3 none]
def wsX10_print_r7 : List Cond := [Cond.methodLink RX6 146 yX9_padding, Cond.instanceMethod yX9_padding, Cond.selects RX9 yX9_padding yX9_padding, Cond.code yX9_padding cX9_padding 3 (some .int), Cond.methodLink RX6 152 yX6_putBlanks, Cond.instanceMethod yX6_putBlanks, Cond.selects RX6 yX6_putBlanks yX6_putBlanks, Cond.code yX6_putBlanks cX6_putBlanks 4 none, Cond.methodLink RX6 155 yX6_settle, Cond.instanceMethod yX6_settle, Cond.selects RX6 yX6_settle yX6_settle, Cond.code yX6_settle cX6_settle 3 none, Cond.methodLink RX6 213 yX8_forgetLines, Cond.instanceMethod yX8_forgetLines, Cond.selects RX8 yX8_forgetLines yX8_forgetLines, Cond.code yX8_forgetLines cX8_forgetLines 3 none, Cond.methodLink RX8 122 yX8_beginLine, Cond.instanceMethod yX8_beginLine, Cond.selects RX8 yX8_beginLine yX8_beginLine, Cond.code yX8_beginLine cX8_beginLine 3 none, Cond.methodLink RX6 216 yX8_merge, Cond.instanceMethod yX8_merge, Cond.selects RX8 yX8_merge yX8_merge, Cond.code yX8_merge cX8_merge 5 none]
def wsX10_print_r8 : List Cond := [Cond.methodLink RX8 125 yX8_clearSlots, Cond.instanceMethod yX8_clearSlots, Cond.selects RX8 yX8_clearSlots yX8_clearSlots, Cond.code yX8_clearSlots cX8_clearSlots 3 none, Cond.fieldLink RX8 53 "LayoutPress$States" "slotCount" "I", Cond.fieldLink RX8 50 "LayoutPress$States" "slots" "[I", Cond.arrayClass .int, Cond.methodLink RX8 142 yJ7_fill_fda19, Cond.static yJ7_fill_fda19, Cond.code yJ7_fill_fda19 cJ7_fill_fda19 5 none, Cond.methodLink RJ7 13 yJ7_rangeCheck_23922, Cond.static yJ7_rangeCheck_23922, Cond.code yJ7_rangeCheck_23922 cJ7_rangeCheck_23922 3 none, Cond.classLink RJ7 45 RJ4, Cond.instantiable RJ4 4, Cond.initialized RJ4, Cond.classLink RJ7 68 RJx00060, Cond.instantiable RJx00060 6, Cond.initialized RJx00060, Cond.methodLink RX8 128 yX8_keepTop, Cond.instanceMethod yX8_keepTop, Cond.selects RX8 yX8_keepTop yX8_keepTop, Cond.code yX8_keepTop cX8_keepTop 5 none, Cond.fieldLink RX8 44 "LayoutPress$States" "link" "[I"]
def wsX10_print_r9 : List Cond := [Cond.methodLink RX8 132 yX8_mix, Cond.static yX8_mix, Cond.code yX8_mix cX8_mix 3 (some .int), Cond.constant RX8 146 (-1640531535), Cond.methodLink RX8 135 yX8_slotOf, Cond.instanceMethod yX8_slotOf, Cond.selects RX8 yX8_slotOf yX8_slotOf, Cond.code yX8_slotOf cX8_slotOf 2 (some .int), Cond.methodLink RX8 138 yX8_goesOnNoWorse, Cond.instanceMethod yX8_goesOnNoWorse, Cond.selects RX8 yX8_goesOnNoWorse yX8_goesOnNoWorse, Cond.code yX8_goesOnNoWorse cX8_goesOnNoWorse 8 (some .boolean), Cond.methodLink RX6 158 yX6_putLeaf, Cond.instanceMethod yX6_putLeaf, Cond.selects RX6 yX6_putLeaf yX6_putLeaf, Cond.code yX6_putLeaf cX6_putLeaf 5 none, Cond.fieldLink RX6 230 "LayoutPress$Kind" "TAB" "LLayoutPress$Kind;", Cond.methodLink RX6 233 yX6_putTab, Cond.instanceMethod yX6_putTab, Cond.selects RX6 yX6_putTab yX6_putTab, Cond.code yX6_putTab cX6_putTab 4 none, Cond.methodLink RX6 270 Lib.Math.max.name, Cond.static Lib.Math.max.name, Cond.code Lib.Math.max.name Lib.Math.max.code 2 (some .int)]
def wsX10_print_r10 : List Cond := [Cond.methodLink RX6 236 yX3_endsLine, Cond.instanceMethod yX3_endsLine, Cond.selects RX3 yX3_endsLine yX3_endsLine, Cond.initialized RX3, Cond.code yX3_endsLine cX3_endsLine 1 (some .boolean), Cond.fieldLink RX3 10 "LayoutPress$Kind" "LINE" "LLayoutPress$Kind;", Cond.fieldLink RX3 13 "LayoutPress$Kind" "SOFT" "LLayoutPress$Kind;", Cond.fieldLink RX3 16 "LayoutPress$Kind" "HARD" "LLayoutPress$Kind;", Cond.methodLink RX6 239 yX6_putSigns, Cond.instanceMethod yX6_putSigns, Cond.selects RX6 yX6_putSigns yX6_putSigns, Cond.code yX6_putSigns cX6_putSigns 7 none, Cond.fieldLink RX6 249 "LayoutPress$Kind" "REMARK" "LLayoutPress$Kind;", Cond.methodLink RX6 252 yX8_dropRemarked, Cond.instanceMethod yX8_dropRemarked, Cond.selects RX8 yX8_dropRemarked yX8_dropRemarked, Cond.code yX8_dropRemarked cX8_dropRemarked 4 none, Cond.methodLink RX6 260 yX9_lineCost, Cond.instanceMethod yX9_lineCost, Cond.selects RX9 yX9_lineCost yX9_lineCost, Cond.code yX9_lineCost cX9_lineCost 7 (some .long), Cond.methodLink RX9 60 Lib.Math.max.name, Cond.methodLink RX6 246 yX6_endLines, Cond.instanceMethod yX6_endLines]
def wsX10_print_r11 : List Cond := [Cond.selects RX6 yX6_endLines yX6_endLines, Cond.code yX6_endLines cX6_endLines 4 none, Cond.methodLink RX6 275 yX8_addLineEnd, Cond.instanceMethod yX8_addLineEnd, Cond.selects RX8 yX8_addLineEnd yX8_addLineEnd, Cond.code yX8_addLineEnd cX8_addLineEnd 2 none, Cond.methodLink RX6 278 yX8_indentationOf, Cond.instanceMethod yX8_indentationOf, Cond.selects RX8 yX8_indentationOf yX8_indentationOf, Cond.code yX8_indentationOf cX8_indentationOf 3 (some .int), Cond.methodLink RX6 281 yX8_beginLine, Cond.code yX6_advanceAlign cX6_advanceAlign 8 none, Cond.fieldLink RX6 165 "LayoutPress$Kind" "NEST" "LLayoutPress$Kind;", Cond.fieldLink RX6 168 "LayoutPress$Kind" "PAIR" "LLayoutPress$Kind;", Cond.methodLink RX6 171 yX6_passAlign, Cond.instanceMethod yX6_passAlign, Cond.selects RX6 yX6_passAlign yX6_passAlign, Cond.code yX6_fork cX6_fork 10 none, Cond.fieldLink RX6 206 "LayoutPress$Kind" "GROUP" "LLayoutPress$Kind;", Cond.methodLink RX6 209 yX8_branch, Cond.instanceMethod yX8_branch, Cond.selects RX8 yX8_branch yX8_branch, Cond.code yX8_branch cX8_branch 5 none, Cond.fieldLink RX8 9 "LayoutPress$States" "held" "LLayoutPress$Held;"]
def wsX10_print_r12 : List Cond := [Cond.methodLink RX8 107 yX2_allows, Cond.instanceMethod yX2_allows, Cond.selects RX2 yX2_allows yX2_allows, Cond.code yX2_allows cX2_allows 4 (some .boolean), Cond.static yX10_wayBit, Cond.code yX10_wayBit cX10_wayBit 1 (some .int), Cond.methodLink RX8 113 yX8_hasRoom, Cond.instanceMethod yX8_hasRoom, Cond.selects RX8 yX8_hasRoom yX8_hasRoom, Cond.code yX8_hasRoom cX8_hasRoom 3 (some .boolean), Cond.methodLink RX8 64 Lib.Math.max.name, Cond.methodLink RX8 70 Lib.Math.min.name, Cond.static Lib.Math.min.name, Cond.code Lib.Math.min.name Lib.Math.min.code 2 (some .int), Cond.methodLink RX8 73 yX8_makeRows, Cond.instanceMethod yX8_makeRows, Cond.selects RX8 yX8_makeRows yX8_makeRows, Cond.code yX8_makeRows cX8_makeRows 2 none, Cond.fieldLink RX8 47 "LayoutPress$States" "head" "[I", Cond.methodLink RX8 77 yJ7_copyOf_59c91, Cond.static yJ7_copyOf_59c91, Cond.code yJ7_copyOf_59c91 cJ7_copyOf_59c91 3 (some (.array .int)), Cond.methodLink RJ7 316 ⟨"[I", "clone", "()Ljava/lang/Object;"⟩, Cond.sameMethod "[I" "java/lang/Object" "clone" "()Ljava/lang/Object;"]
def wsX10_print_r13 : List Cond := [Cond.native ⟨"java/lang/Object", "clone", "()Ljava/lang/Object;"⟩, Cond.instanceMethod ⟨"java/lang/Object", "clone", "()Ljava/lang/Object;"⟩, Cond.selects "[I" ⟨"[I", "clone", "()Ljava/lang/Object;"⟩ ⟨"java/lang/Object", "clone", "()Ljava/lang/Object;"⟩, Cond.classLink RJ7 317 "[I", Cond.methodLink RJ7 304 Lib.Math.min.name, Cond.methodLink RJ7 150 arraycopyName, Cond.native arraycopyName, Cond.static arraycopyName, Cond.initialized "java/lang/System", Cond.methodLink RX8 83 yJ7_copyOf_c38d5, Cond.static yJ7_copyOf_c38d5, Cond.code yJ7_copyOf_c38d5 cJ7_copyOf_c38d5 3 (some (.array .long)), Cond.methodLink RJ7 319 ⟨"[J", "clone", "()Ljava/lang/Object;"⟩, Cond.sameMethod "[J" "java/lang/Object" "clone" "()Ljava/lang/Object;", Cond.selects "[J" ⟨"[J", "clone", "()Ljava/lang/Object;"⟩ ⟨"java/lang/Object", "clone", "()Ljava/lang/Object;"⟩, Cond.classLink RJ7 320 "[J", Cond.arrayClass .long, Cond.methodLink RX6 203 yX8_slide, Cond.instanceMethod yX8_slide, Cond.selects RX8 yX8_slide yX8_slide, Cond.code yX8_slide cX8_slide 5 none, Cond.code yX6_passAlign cX6_passAlign 14 none, Cond.methodLink RX6 175 yX8_waitAtAlign, Cond.instanceMethod yX8_waitAtAlign]
def wsX10_print_r14 : List Cond := [Cond.selects RX8 yX8_waitAtAlign yX8_waitAtAlign, Cond.code yX8_waitAtAlign cX8_waitAtAlign 6 none, Cond.methodLink RX8 150 Lib.MathLoose.min_long.x, Cond.static Lib.MathLoose.min_long.x, Cond.code Lib.MathLoose.min_long.x Lib.MathLoose.min_long.code 4 (some .long), Cond.methodLink RX8 147 yX8_isInSameLine, Cond.instanceMethod yX8_isInSameLine, Cond.selects RX8 yX8_isInSameLine yX8_isInSameLine, Cond.code yX8_isInSameLine cX8_isInSameLine 3 (some .boolean), Cond.methodLink RX6 179 yX2_enter, Cond.instanceMethod yX2_enter, Cond.selects RX2 yX2_enter yX2_enter, Cond.code yX2_enter cX2_enter 1 none, Cond.methodLink RX6 182 yX8_enterAlign, Cond.instanceMethod yX8_enterAlign, Cond.selects RX8 yX8_enterAlign yX8_enterAlign, Cond.code yX8_enterAlign cX8_enterAlign 6 (some .int), Cond.methodLink RX6 186 yX8_waitingFor, Cond.instanceMethod yX8_waitingFor, Cond.selects RX8 yX8_waitingFor yX8_waitingFor, Cond.code yX8_waitingFor cX8_waitingFor 2 (some .int), Cond.methodLink RX6 190 yX8_leaveAlign, Cond.instanceMethod yX8_leaveAlign, Cond.selects RX8 yX8_leaveAlign yX8_leaveAlign]
def wsX10_print_r15 : List Cond := [Cond.code yX8_leaveAlign cX8_leaveAlign 11 none, Cond.methodLink RX8 153 yX8_join, Cond.instanceMethod yX8_join, Cond.selects RX8 yX8_join yX8_join, Cond.code yX8_join cX8_join 4 none, Cond.methodLink RX8 160 yX2_allowsOutside, Cond.instanceMethod yX2_allowsOutside, Cond.selects RX2 yX2_allowsOutside yX2_allowsOutside, Cond.code yX2_allowsOutside cX2_allowsOutside 5 (some .boolean), Cond.methodLink RX2 31 Lib.Math.max.name, Cond.methodLink RX8 157 yX8_slide, Cond.methodLink RX6 81 yX2_goOn, Cond.instanceMethod yX2_goOn, Cond.selects RX2 yX2_goOn yX2_goOn, Cond.code yX2_goOn cX2_goOn 2 (some .boolean), Cond.fieldLink RX2 18 "LayoutPress$Held" "order" "[I", Cond.methodLink RX6 194 yX8_giveUp, Cond.instanceMethod yX8_giveUp, Cond.selects RX8 yX8_giveUp yX8_giveUp, Cond.code yX8_giveUp cX8_giveUp 2 none, Cond.methodLink RX6 197 yX6_hasRoomInside, Cond.static yX6_hasRoomInside, Cond.code yX6_hasRoomInside cX6_hasRoomInside 1 (some .boolean), Cond.methodLink RX6 70 yX8_placeToHold]
def wsX10_print_r16 : List Cond := [Cond.instanceMethod yX8_placeToHold, Cond.selects RX8 yX8_placeToHold yX8_placeToHold, Cond.code yX8_placeToHold cX8_placeToHold 7 (some .int), Cond.methodLink RX8 163 yX2_isHeld, Cond.instanceMethod yX2_isHeld, Cond.selects RX2 yX2_isHeld yX2_isHeld, Cond.code yX2_isHeld cX2_isHeld 2 (some .boolean), Cond.methodLink RX8 166 yX8_countLess, Cond.instanceMethod yX8_countLess, Cond.selects RX8 yX8_countLess yX8_countLess, Cond.code yX8_countLess cX8_countLess 8 (some .int), Cond.static yX10_wayIn, Cond.code yX10_wayIn cX10_wayIn 2 (some .int), Cond.methodLink RX10 273 yX10_wayBit, Cond.methodLink RX6 74 yX2_hold, Cond.instanceMethod yX2_hold, Cond.selects RX2 yX2_hold yX2_hold, Cond.code yX2_hold cX2_hold 2 (some .boolean), Cond.methodLink RX6 200 yX2_leave, Cond.instanceMethod yX2_leave, Cond.selects RX2 yX2_leave yX2_leave, Cond.code yX2_leave cX2_leave 1 none, Cond.methodLink RX6 78 yX6_keepBest, Cond.instanceMethod yX6_keepBest]
def wsX10_print_r17 : List Cond := [Cond.selects RX6 yX6_keepBest yX6_keepBest, Cond.code yX6_keepBest cX6_keepBest 5 none, Cond.fieldLink RX6 97 "LayoutPress$Search" "bestWays" "I", Cond.fieldLink RX6 103 "LayoutPress$Search" "bestTold" "I", Cond.methodLink RX10 158 yX1_write, Cond.instanceMethod yX1_write, Cond.selects RX1 yX1_write yX1_write, Cond.initialized RX1, Cond.code yX1_write cX1_write 4 none, Cond.methodLink RX1 22 yX1_layOut, Cond.instanceMethod yX1_layOut, Cond.selects RX1 yX1_layOut yX1_layOut, Cond.code yX1_layOut cX1_layOut 6 none, Cond.fieldLink RX1 26 "LayoutPress$Hand" "plan" "I", Cond.fieldLink RX1 30 "LayoutPress$Hand" "planned" "I", Cond.fieldLink RX1 33 "LayoutPress$Hand" "laterWay" "I", Cond.fieldLink RX1 36 "LayoutPress$Hand" "watched" "I", Cond.fieldLink RX1 39 "LayoutPress$Hand" "hasStopped" "Z", Cond.fieldLink RX1 18 "LayoutPress$Hand" "sheet" "LLayoutPress$Sheet;", Cond.methodLink RX1 43 yX7_clear, Cond.instanceMethod yX7_clear, Cond.selects RX7 yX7_clear yX7_clear, Cond.initialized RX7, Cond.code yX7_clear cX7_clear 1 none]
def wsX10_print_r18 : List Cond := [Cond.fieldLink RX7 42 "LayoutPress$Sheet" "lineCount" "I", Cond.fieldLink RX7 46 "LayoutPress$Sheet" "isImpossible" "Z", Cond.fieldLink RX7 50 "LayoutPress$Sheet" "prices" "J", Cond.fieldLink RX7 54 "LayoutPress$Sheet" "ways" "I", Cond.fieldLink RX7 57 "LayoutPress$Sheet" "told" "I", Cond.fieldLink RX7 60 "LayoutPress$Sheet" "ownerCount" "I", Cond.fieldLink RX7 21 "LayoutPress$Sheet" "starts" "[I", Cond.methodLink RX7 24 yJ7_fill_53178, Cond.methodLink RX7 63 yX7_beginLine, Cond.instanceMethod yX7_beginLine, Cond.selects RX7 yX7_beginLine yX7_beginLine, Cond.code yX7_beginLine cX7_beginLine 2 none, Cond.fieldLink RX7 9 "LayoutPress$Sheet" "firsts" "[I", Cond.fieldLink RX7 15 "LayoutPress$Sheet" "ends" "[I", Cond.fieldLink RX7 18 "LayoutPress$Sheet" "cutCosts" "[I", Cond.methodLink RX7 67 Lib.Math.max.name, Cond.fieldLink RX7 73 "LayoutPress$Sheet" "column" "I", Cond.fieldLink RX7 76 "LayoutPress$Sheet" "hasRemark" "Z", Cond.methodLink RX1 46 yX1_put, Cond.instanceMethod yX1_put, Cond.selects RX1 yX1_put yX1_put, Cond.code yX1_put cX1_put 6 none, Cond.fieldLink RX1 108 "LayoutPress$1" "$SwitchMap$LayoutPress$Kind" "[I", Cond.fieldLink RX1 9 "LayoutPress$Hand" "terms" "LLayoutPress$Terms;"]
def wsX10_print_r19 : List Cond := [Cond.methodLink RX1 104 yX7_beginNode, Cond.instanceMethod yX7_beginNode, Cond.selects RX7 yX7_beginNode yX7_beginNode, Cond.code yX7_beginNode cX7_beginNode 3 none, Cond.methodLink RX7 82 yX7_present, Cond.instanceMethod yX7_present, Cond.selects RX7 yX7_present yX7_present, Cond.code yX7_present cX7_present 1 (some .int), Cond.methodLink RX1 120 ⟨"LayoutPress$Kind", "ordinal", "()I"⟩, Cond.methodLink RX1 138 yX1_decide, Cond.instanceMethod yX1_decide, Cond.selects RX1 yX1_decide yX1_decide, Cond.code yX1_decide cX1_decide 2 (some .int), Cond.methodLink RX1 97 yX7_tell, Cond.instanceMethod yX7_tell, Cond.selects RX7 yX7_tell yX7_tell, Cond.code yX7_tell cX7_tell 2 none, Cond.methodLink RX1 84 yX7_present, Cond.methodLink RX1 145 yX7_keepTogether, Cond.instanceMethod yX7_keepTogether, Cond.selects RX7 yX7_keepTogether yX7_keepTogether, Cond.code yX7_keepTogether cX7_keepTogether 4 none, Cond.methodLink RX1 149 yX9_padding, Cond.methodLink RX1 153 yX7_putBlanks]
def wsX10_print_r20 : List Cond := [Cond.instanceMethod yX7_putBlanks, Cond.selects RX7 yX7_putBlanks yX7_putBlanks, Cond.code yX7_putBlanks cX7_putBlanks 2 none, Cond.methodLink RX1 156 yX1_putLeaf, Cond.instanceMethod yX1_putLeaf, Cond.selects RX1 yX1_putLeaf yX1_putLeaf, Cond.code yX1_putLeaf cX1_putLeaf 4 none, Cond.fieldLink RX1 163 "LayoutPress$Kind" "TAB" "LLayoutPress$Kind;", Cond.methodLink RX1 166 yX7_putTab, Cond.instanceMethod yX7_putTab, Cond.selects RX7 yX7_putTab yX7_putTab, Cond.code yX7_putTab cX7_putTab 2 none, Cond.methodLink RX1 169 yX3_endsLine, Cond.methodLink RX1 172 yX7_putSigns, Cond.instanceMethod yX7_putSigns, Cond.selects RX7 yX7_putSigns yX7_putSigns, Cond.code yX7_putSigns cX7_putSigns 3 none, Cond.fieldLink RX7 32 "LayoutPress$Sheet" "owners" "[LLayoutPress$Node;", Cond.fieldLink RX7 36 "LayoutPress$Sheet" "ownerLines" "[I", Cond.fieldLink RX7 39 "LayoutPress$Sheet" "ownerColumns" "[I", Cond.fieldLink RX7 93 "LayoutPress$Kind" "REMARK" "LLayoutPress$Kind;", Cond.methodLink RX1 178 yX1_endLine, Cond.instanceMethod yX1_endLine, Cond.selects RX1 yX1_endLine yX1_endLine]
def wsX10_print_r21 : List Cond := [Cond.code yX1_endLine cX1_endLine 2 none, Cond.methodLink RX1 101 yX7_beginLine, Cond.methodLink RX10 162 yX10_takeSheet, Cond.instanceMethod yX10_takeSheet, Cond.selects RX10 yX10_takeSheet yX10_takeSheet, Cond.code yX10_takeSheet cX10_takeSheet 1 (some .int), Cond.fieldLink RX10 52 "LayoutPress" "printed" "LLayoutPress$Sheet;", Cond.fieldLink RX10 45 "LayoutPress" "pages" "LLayoutPress$Pages;", Cond.methodLink RX10 262 yX1_exchange, Cond.instanceMethod yX1_exchange, Cond.selects RX1 yX1_exchange yX1_exchange, Cond.code yX1_exchange cX1_exchange 3 (some (.object "LayoutPress$Sheet")), Cond.methodLink RX10 266 yX5_forget, Cond.instanceMethod yX5_forget, Cond.selects RX5 yX5_forget yX5_forget, Cond.initialized RX5, Cond.code yX5_forget cX5_forget 1 none, Cond.fieldLink RX5 24 "LayoutPress$Pages" "areBroken" "Z", Cond.methodLink RX10 269 yX9_costOf, Cond.instanceMethod yX9_costOf, Cond.selects RX9 yX9_costOf yX9_costOf, Cond.code yX9_costOf cX9_costOf 5 (some .long), Cond.methodLink RX9 74 yX7_firstOf, Cond.instanceMethod yX7_firstOf]
def wsX10_print_r22 : List Cond := [Cond.selects RX7 yX7_firstOf yX7_firstOf, Cond.code yX7_firstOf cX7_firstOf 2 (some .int), Cond.methodLink RX9 78 yX7_endOf, Cond.instanceMethod yX7_endOf, Cond.selects RX7 yX7_endOf yX7_endOf, Cond.code yX7_endOf cX7_endOf 2 (some .int), Cond.methodLink RX9 81 yX9_lineCost]
def wsX10_print : List Cond := .code yX10_print cX10_print 6 (some .int) :: ((wsX10_print_r1 ++ (wsX10_print_r2 ++ (wsX10_print_r3 ++ (wsX10_print_r4 ++ (wsX10_print_r5 ++ (wsX10_print_r6 ++ (wsX10_print_r7 ++ (wsX10_print_r8 ++ (wsX10_print_r9 ++ (wsX10_print_r10 ++ (wsX10_print_r11 ++ (wsX10_print_r12 ++ (wsX10_print_r13 ++ (wsX10_print_r14 ++ (wsX10_print_r15 ++ (wsX10_print_r16 ++ (wsX10_print_r17 ++ (wsX10_print_r18 ++ (wsX10_print_r19 ++ (wsX10_print_r20 ++ (wsX10_print_r21 ++ wsX10_print_r22))))))))))))))))))))) ++ wsX100 ++ wsX60 ++ wsX90 ++ wsX40 ++ wsX80 ++ wsX20 ++ wsJ40 ++ wsJx000600 ++ wsX10 ++ wsX70 ++ wsX50 ++ (vx_atS RX10 130 "java/lang/IllegalStateException" ["java/lang/RuntimeException", "java/lang/Exception"]).filter goodWord ++ (vx_atS RX10 212 "java/lang/IndexOutOfBoundsException" ["java/lang/RuntimeException", "java/lang/Exception"]).filter goodWord ++ (vx_atS RX10 238 "java/lang/IllegalArgumentException" ["java/lang/RuntimeException", "java/lang/Exception"]).filter goodWord ++ (vx_atM "java/lang/ArrayIndexOutOfBoundsException" ["java/lang/IndexOutOfBoundsException", "java/lang/RuntimeException", "java/lang/Exception"]).filter goodWord)
def wsX10_printByAll_r1 : List Cond := [Cond.classLink RX10 126 "java/lang/IllegalStateException", Cond.initialized "java/lang/IllegalStateException", Cond.fieldLink RX10 38 "LayoutPress" "hand" "LLayoutPress$Hand;", Cond.methodLink RX10 91 yX10_nodeOf, Cond.instanceMethod yX10_nodeOf, Cond.selects RX10 yX10_nodeOf yX10_nodeOf, Cond.initialized RX10, Cond.code yX10_nodeOf cX10_nodeOf 3 (some (.object "LayoutPress$Node")), Cond.classLink RX10 208 "java/lang/IndexOutOfBoundsException", Cond.initialized "java/lang/IndexOutOfBoundsException", Cond.fieldLink RX10 15 "LayoutPress" "madeCount" "I", Cond.fieldLink RX10 11 "LayoutPress" "made" "[LLayoutPress$Node;", Cond.methodLink RX10 142 yX10_agreeOn, Cond.instanceMethod yX10_agreeOn, Cond.selects RX10 yX10_agreeOn yX10_agreeOn, Cond.code yX10_agreeOn cX10_agreeOn 5 none, Cond.fieldLink RX10 22 "LayoutPress" "terms" "LLayoutPress$Terms;", Cond.methodLink RX10 56 yX10_checkRange, Cond.static yX10_checkRange, Cond.code yX10_checkRange cX10_checkRange 3 none, Cond.classLink RX10 234 "java/lang/IllegalArgumentException", Cond.initialized "java/lang/IllegalArgumentException", Cond.methodLink RX10 255 yX9_set, Cond.instanceMethod yX9_set]
def wsX10_printByAll_r2 : List Cond := [Cond.selects RX9 yX9_set yX9_set, Cond.initialized RX9, Cond.code yX9_set cX9_set 4 none, Cond.fieldLink RX9 15 "LayoutPress$Terms" "width" "I", Cond.fieldLink RX9 19 "LayoutPress$Terms" "ribbon" "I", Cond.fieldLink RX9 22 "LayoutPress$Terms" "linePrice" "I", Cond.methodLink RX10 258 yX9_measureCells, Cond.instanceMethod yX9_measureCells, Cond.selects RX9 yX9_measureCells yX9_measureCells, Cond.code yX9_measureCells cX9_measureCells 5 none, Cond.fieldLink RX9 9 "LayoutPress$Terms" "widest" "[I", Cond.fieldLink RX9 37 "LayoutPress$Kind" "CELL" "LLayoutPress$Kind;", Cond.methodLink RX9 25 yJ7_fill_53178, Cond.static yJ7_fill_53178, Cond.initialized RJ7, Cond.code yJ7_fill_53178 cJ7_fill_53178 4 none, Cond.methodLink RX9 46 yX4_bit, Cond.instanceMethod yX4_bit, Cond.selects RX4 yX4_bit yX4_bit, Cond.initialized RX4, Cond.code yX4_bit cX4_bit 1 (some .long), Cond.fieldLink RX4 116 "LayoutPress$Node" "number" "I", Cond.methodLink RX9 50 yX9_widen, Cond.instanceMethod yX9_widen]
def wsX10_printByAll_r3 : List Cond := [Cond.selects RX9 yX9_widen yX9_widen, Cond.code yX9_widen cX9_widen 3 none, Cond.methodLink RX10 168 yX1_writeBestOfAll, Cond.instanceMethod yX1_writeBestOfAll, Cond.selects RX1 yX1_writeBestOfAll yX1_writeBestOfAll, Cond.initialized RX1, Cond.code yX1_writeBestOfAll cX1_writeBestOfAll 15 (some .boolean), Cond.fieldLink RX1 9 "LayoutPress$Hand" "terms" "LLayoutPress$Terms;", Cond.fieldLink RX1 18 "LayoutPress$Hand" "sheet" "LLayoutPress$Sheet;", Cond.methodLink RX1 22 yX1_layOut, Cond.instanceMethod yX1_layOut, Cond.selects RX1 yX1_layOut yX1_layOut, Cond.code yX1_layOut cX1_layOut 6 none, Cond.fieldLink RX1 26 "LayoutPress$Hand" "plan" "I", Cond.fieldLink RX1 30 "LayoutPress$Hand" "planned" "I", Cond.fieldLink RX1 33 "LayoutPress$Hand" "laterWay" "I", Cond.fieldLink RX1 36 "LayoutPress$Hand" "watched" "I", Cond.fieldLink RX1 39 "LayoutPress$Hand" "hasStopped" "Z", Cond.methodLink RX1 43 yX7_clear, Cond.instanceMethod yX7_clear, Cond.selects RX7 yX7_clear yX7_clear, Cond.initialized RX7, Cond.code yX7_clear cX7_clear 1 none, Cond.fieldLink RX7 42 "LayoutPress$Sheet" "lineCount" "I"]
def wsX10_printByAll_r4 : List Cond := [Cond.fieldLink RX7 46 "LayoutPress$Sheet" "isImpossible" "Z", Cond.fieldLink RX7 50 "LayoutPress$Sheet" "prices" "J", Cond.fieldLink RX7 54 "LayoutPress$Sheet" "ways" "I", Cond.fieldLink RX7 57 "LayoutPress$Sheet" "told" "I", Cond.fieldLink RX7 60 "LayoutPress$Sheet" "ownerCount" "I", Cond.fieldLink RX7 21 "LayoutPress$Sheet" "starts" "[I", Cond.methodLink RX7 24 yJ7_fill_53178, Cond.methodLink RX7 63 yX7_beginLine, Cond.instanceMethod yX7_beginLine, Cond.selects RX7 yX7_beginLine yX7_beginLine, Cond.code yX7_beginLine cX7_beginLine 2 none, Cond.fieldLink RX7 9 "LayoutPress$Sheet" "firsts" "[I", Cond.fieldLink RX7 15 "LayoutPress$Sheet" "ends" "[I", Cond.fieldLink RX7 18 "LayoutPress$Sheet" "cutCosts" "[I", Cond.methodLink RX7 67 Lib.Math.max.name, Cond.static Lib.Math.max.name, Cond.initialized "java/lang/Math", Cond.code Lib.Math.max.name Lib.Math.max.code 2 (some .int), Cond.fieldLink RX7 73 "LayoutPress$Sheet" "column" "I", Cond.fieldLink RX7 76 "LayoutPress$Sheet" "hasRemark" "Z", Cond.methodLink RX1 46 yX1_put, Cond.instanceMethod yX1_put, Cond.selects RX1 yX1_put yX1_put, Cond.code yX1_put cX1_put 6 none]
def wsX10_printByAll_r5 : List Cond := [Cond.fieldLink RX1 108 "LayoutPress$1" "$SwitchMap$LayoutPress$Kind" "[I", Cond.methodLink RX1 104 yX7_beginNode, Cond.instanceMethod yX7_beginNode, Cond.selects RX7 yX7_beginNode yX7_beginNode, Cond.code yX7_beginNode cX7_beginNode 3 none, Cond.methodLink RX7 82 yX7_present, Cond.instanceMethod yX7_present, Cond.selects RX7 yX7_present yX7_present, Cond.code yX7_present cX7_present 1 (some .int), Cond.methodLink RX1 120 ⟨"LayoutPress$Kind", "ordinal", "()I"⟩, Cond.sameMethod "LayoutPress$Kind" "java/lang/Enum" "ordinal" "()I", Cond.selects RX3 ⟨"LayoutPress$Kind", "ordinal", "()I"⟩ yJx29ce0_ordinal_8abf5, Cond.instanceMethod yJx29ce0_ordinal_8abf5, Cond.initialized RJx29ce0, Cond.code yJx29ce0_ordinal_8abf5 cJx29ce0_ordinal_8abf5 1 (some .int), Cond.fieldLink RJx29ce0 7 "java/lang/Enum" "ordinal" "I", Cond.methodLink RX1 138 yX1_decide, Cond.instanceMethod yX1_decide, Cond.selects RX1 yX1_decide yX1_decide, Cond.code yX1_decide cX1_decide 2 (some .int), Cond.static yX10_wayIn, Cond.code yX10_wayIn cX10_wayIn 2 (some .int), Cond.methodLink RX10 273 yX10_wayBit, Cond.static yX10_wayBit]
def wsX10_printByAll_r6 : List Cond := [Cond.code yX10_wayBit cX10_wayBit 1 (some .int), Cond.methodLink RX1 97 yX7_tell, Cond.instanceMethod yX7_tell, Cond.selects RX7 yX7_tell yX7_tell, Cond.code yX7_tell cX7_tell 2 none, Cond.methodLink RX1 84 yX7_present, Cond.methodLink RX1 145 yX7_keepTogether, Cond.instanceMethod yX7_keepTogether, Cond.selects RX7 yX7_keepTogether yX7_keepTogether, Cond.code yX7_keepTogether cX7_keepTogether 4 none, Cond.methodLink RX1 149 yX9_padding, Cond.instanceMethod yX9_padding, Cond.selects RX9 yX9_padding yX9_padding, Cond.code yX9_padding cX9_padding 3 (some .int), Cond.methodLink RX1 153 yX7_putBlanks, Cond.instanceMethod yX7_putBlanks, Cond.selects RX7 yX7_putBlanks yX7_putBlanks, Cond.code yX7_putBlanks cX7_putBlanks 2 none, Cond.methodLink RX1 156 yX1_putLeaf, Cond.instanceMethod yX1_putLeaf, Cond.selects RX1 yX1_putLeaf yX1_putLeaf, Cond.code yX1_putLeaf cX1_putLeaf 4 none, Cond.fieldLink RX1 163 "LayoutPress$Kind" "TAB" "LLayoutPress$Kind;", Cond.methodLink RX1 166 yX7_putTab]
def wsX10_printByAll_r7 : List Cond := [Cond.instanceMethod yX7_putTab, Cond.selects RX7 yX7_putTab yX7_putTab, Cond.code yX7_putTab cX7_putTab 2 none, Cond.methodLink RX1 169 yX3_endsLine, Cond.instanceMethod yX3_endsLine, Cond.selects RX3 yX3_endsLine yX3_endsLine, Cond.initialized RX3, Cond.code yX3_endsLine cX3_endsLine 1 (some .boolean), Cond.fieldLink RX3 10 "LayoutPress$Kind" "LINE" "LLayoutPress$Kind;", Cond.fieldLink RX3 13 "LayoutPress$Kind" "SOFT" "LLayoutPress$Kind;", Cond.fieldLink RX3 16 "LayoutPress$Kind" "HARD" "LLayoutPress$Kind;", Cond.methodLink RX1 172 yX7_putSigns, Cond.instanceMethod yX7_putSigns, Cond.selects RX7 yX7_putSigns yX7_putSigns, Cond.code yX7_putSigns cX7_putSigns 3 none, Cond.fieldLink RX7 32 "LayoutPress$Sheet" "owners" "[LLayoutPress$Node;", Cond.fieldLink RX7 36 "LayoutPress$Sheet" "ownerLines" "[I", Cond.fieldLink RX7 39 "LayoutPress$Sheet" "ownerColumns" "[I", Cond.fieldLink RX7 93 "LayoutPress$Kind" "REMARK" "LLayoutPress$Kind;", Cond.methodLink RX1 178 yX1_endLine, Cond.instanceMethod yX1_endLine, Cond.selects RX1 yX1_endLine yX1_endLine, Cond.code yX1_endLine cX1_endLine 2 none, Cond.methodLink RX1 101 yX7_beginLine]
def wsX10_printByAll_r8 : List Cond := [Cond.methodLink RX1 50 yX9_costOf, Cond.instanceMethod yX9_costOf, Cond.selects RX9 yX9_costOf yX9_costOf, Cond.code yX9_costOf cX9_costOf 5 (some .long), Cond.methodLink RX9 74 yX7_firstOf, Cond.instanceMethod yX7_firstOf, Cond.selects RX7 yX7_firstOf yX7_firstOf, Cond.code yX7_firstOf cX7_firstOf 2 (some .int), Cond.methodLink RX9 78 yX7_endOf, Cond.instanceMethod yX7_endOf, Cond.selects RX7 yX7_endOf yX7_endOf, Cond.code yX7_endOf cX7_endOf 2 (some .int), Cond.methodLink RX9 81 yX9_lineCost, Cond.instanceMethod yX9_lineCost, Cond.selects RX9 yX9_lineCost yX9_lineCost, Cond.code yX9_lineCost cX9_lineCost 7 (some .long), Cond.methodLink RX9 60 Lib.Math.max.name, Cond.methodLink RX1 68 yX1_lastFirstWay, Cond.instanceMethod yX1_lastFirstWay, Cond.selects RX1 yX1_lastFirstWay yX1_lastFirstWay, Cond.code yX1_lastFirstWay cX1_lastFirstWay 2 (some .int), Cond.methodLink RX10 162 yX10_takeSheet, Cond.instanceMethod yX10_takeSheet, Cond.selects RX10 yX10_takeSheet yX10_takeSheet]
def wsX10_printByAll_r9 : List Cond := [Cond.code yX10_takeSheet cX10_takeSheet 1 (some .int), Cond.fieldLink RX10 52 "LayoutPress" "printed" "LLayoutPress$Sheet;", Cond.fieldLink RX10 45 "LayoutPress" "pages" "LLayoutPress$Pages;", Cond.methodLink RX10 262 yX1_exchange, Cond.instanceMethod yX1_exchange, Cond.selects RX1 yX1_exchange yX1_exchange, Cond.code yX1_exchange cX1_exchange 3 (some (.object "LayoutPress$Sheet")), Cond.methodLink RX10 266 yX5_forget, Cond.instanceMethod yX5_forget, Cond.selects RX5 yX5_forget yX5_forget, Cond.initialized RX5, Cond.code yX5_forget cX5_forget 1 none, Cond.fieldLink RX5 24 "LayoutPress$Pages" "areBroken" "Z", Cond.methodLink RX10 269 yX9_costOf]
def wsX10_printByAll : List Cond := .code yX10_printByAll cX10_printByAll 6 (some .int) :: ((wsX10_printByAll_r1 ++ (wsX10_printByAll_r2 ++ (wsX10_printByAll_r3 ++ (wsX10_printByAll_r4 ++ (wsX10_printByAll_r5 ++ (wsX10_printByAll_r6 ++ (wsX10_printByAll_r7 ++ (wsX10_printByAll_r8 ++ wsX10_printByAll_r9)))))))) ++ wsX40 ++ wsX100 ++ wsX90 ++ wsX10 ++ wsX70 ++ wsX50 ++ (vx_atS RX10 130 "java/lang/IllegalStateException" ["java/lang/RuntimeException", "java/lang/Exception"]).filter goodWord ++ (vx_atS RX10 212 "java/lang/IndexOutOfBoundsException" ["java/lang/RuntimeException", "java/lang/Exception"]).filter goodWord ++ (vx_atS RX10 238 "java/lang/IllegalArgumentException" ["java/lang/RuntimeException", "java/lang/Exception"]).filter goodWord ++ (vx_atM "java/lang/ArrayIndexOutOfBoundsException" ["java/lang/IndexOutOfBoundsException", "java/lang/RuntimeException", "java/lang/Exception"]).filter goodWord)
def wsX10_printGreedy_r1 : List Cond := [Cond.classLink RX10 126 "java/lang/IllegalStateException", Cond.initialized "java/lang/IllegalStateException", Cond.fieldLink RX10 38 "LayoutPress" "hand" "LLayoutPress$Hand;", Cond.methodLink RX10 91 yX10_nodeOf, Cond.instanceMethod yX10_nodeOf, Cond.selects RX10 yX10_nodeOf yX10_nodeOf, Cond.initialized RX10, Cond.code yX10_nodeOf cX10_nodeOf 3 (some (.object "LayoutPress$Node")), Cond.classLink RX10 208 "java/lang/IndexOutOfBoundsException", Cond.initialized "java/lang/IndexOutOfBoundsException", Cond.fieldLink RX10 15 "LayoutPress" "madeCount" "I", Cond.fieldLink RX10 11 "LayoutPress" "made" "[LLayoutPress$Node;", Cond.methodLink RX10 142 yX10_agreeOn, Cond.instanceMethod yX10_agreeOn, Cond.selects RX10 yX10_agreeOn yX10_agreeOn, Cond.code yX10_agreeOn cX10_agreeOn 5 none, Cond.fieldLink RX10 22 "LayoutPress" "terms" "LLayoutPress$Terms;", Cond.methodLink RX10 56 yX10_checkRange, Cond.static yX10_checkRange, Cond.code yX10_checkRange cX10_checkRange 3 none, Cond.classLink RX10 234 "java/lang/IllegalArgumentException", Cond.initialized "java/lang/IllegalArgumentException", Cond.methodLink RX10 255 yX9_set, Cond.instanceMethod yX9_set]
def wsX10_printGreedy_r2 : List Cond := [Cond.selects RX9 yX9_set yX9_set, Cond.initialized RX9, Cond.code yX9_set cX9_set 4 none, Cond.fieldLink RX9 15 "LayoutPress$Terms" "width" "I", Cond.fieldLink RX9 19 "LayoutPress$Terms" "ribbon" "I", Cond.fieldLink RX9 22 "LayoutPress$Terms" "linePrice" "I", Cond.methodLink RX10 258 yX9_measureCells, Cond.instanceMethod yX9_measureCells, Cond.selects RX9 yX9_measureCells yX9_measureCells, Cond.code yX9_measureCells cX9_measureCells 5 none, Cond.fieldLink RX9 9 "LayoutPress$Terms" "widest" "[I", Cond.fieldLink RX9 37 "LayoutPress$Kind" "CELL" "LLayoutPress$Kind;", Cond.methodLink RX9 25 yJ7_fill_53178, Cond.static yJ7_fill_53178, Cond.initialized RJ7, Cond.code yJ7_fill_53178 cJ7_fill_53178 4 none, Cond.methodLink RX9 46 yX4_bit, Cond.instanceMethod yX4_bit, Cond.selects RX4 yX4_bit yX4_bit, Cond.initialized RX4, Cond.code yX4_bit cX4_bit 1 (some .long), Cond.fieldLink RX4 116 "LayoutPress$Node" "number" "I", Cond.methodLink RX9 50 yX9_widen, Cond.instanceMethod yX9_widen]
def wsX10_printGreedy_r3 : List Cond := [Cond.selects RX9 yX9_widen yX9_widen, Cond.code yX9_widen cX9_widen 3 none, Cond.methodLink RX10 171 yX1_writeGreedily, Cond.instanceMethod yX1_writeGreedily, Cond.selects RX1 yX1_writeGreedily yX1_writeGreedily, Cond.initialized RX1, Cond.code yX1_writeGreedily cX1_writeGreedily 4 (some .boolean), Cond.fieldLink RX1 18 "LayoutPress$Hand" "sheet" "LLayoutPress$Sheet;", Cond.methodLink RX1 22 yX1_layOut, Cond.instanceMethod yX1_layOut, Cond.selects RX1 yX1_layOut yX1_layOut, Cond.code yX1_layOut cX1_layOut 6 none, Cond.fieldLink RX1 26 "LayoutPress$Hand" "plan" "I", Cond.fieldLink RX1 30 "LayoutPress$Hand" "planned" "I", Cond.fieldLink RX1 33 "LayoutPress$Hand" "laterWay" "I", Cond.fieldLink RX1 36 "LayoutPress$Hand" "watched" "I", Cond.fieldLink RX1 39 "LayoutPress$Hand" "hasStopped" "Z", Cond.methodLink RX1 43 yX7_clear, Cond.instanceMethod yX7_clear, Cond.selects RX7 yX7_clear yX7_clear, Cond.initialized RX7, Cond.code yX7_clear cX7_clear 1 none, Cond.fieldLink RX7 42 "LayoutPress$Sheet" "lineCount" "I", Cond.fieldLink RX7 46 "LayoutPress$Sheet" "isImpossible" "Z"]
def wsX10_printGreedy_r4 : List Cond := [Cond.fieldLink RX7 50 "LayoutPress$Sheet" "prices" "J", Cond.fieldLink RX7 54 "LayoutPress$Sheet" "ways" "I", Cond.fieldLink RX7 57 "LayoutPress$Sheet" "told" "I", Cond.fieldLink RX7 60 "LayoutPress$Sheet" "ownerCount" "I", Cond.fieldLink RX7 21 "LayoutPress$Sheet" "starts" "[I", Cond.methodLink RX7 24 yJ7_fill_53178, Cond.methodLink RX7 63 yX7_beginLine, Cond.instanceMethod yX7_beginLine, Cond.selects RX7 yX7_beginLine yX7_beginLine, Cond.code yX7_beginLine cX7_beginLine 2 none, Cond.fieldLink RX7 9 "LayoutPress$Sheet" "firsts" "[I", Cond.fieldLink RX7 15 "LayoutPress$Sheet" "ends" "[I", Cond.fieldLink RX7 18 "LayoutPress$Sheet" "cutCosts" "[I", Cond.methodLink RX7 67 Lib.Math.max.name, Cond.static Lib.Math.max.name, Cond.initialized "java/lang/Math", Cond.code Lib.Math.max.name Lib.Math.max.code 2 (some .int), Cond.fieldLink RX7 73 "LayoutPress$Sheet" "column" "I", Cond.fieldLink RX7 76 "LayoutPress$Sheet" "hasRemark" "Z", Cond.methodLink RX1 46 yX1_put, Cond.instanceMethod yX1_put, Cond.selects RX1 yX1_put yX1_put, Cond.code yX1_put cX1_put 6 none, Cond.fieldLink RX1 108 "LayoutPress$1" "$SwitchMap$LayoutPress$Kind" "[I"]
def wsX10_printGreedy_r5 : List Cond := [Cond.fieldLink RX1 9 "LayoutPress$Hand" "terms" "LLayoutPress$Terms;", Cond.methodLink RX1 104 yX7_beginNode, Cond.instanceMethod yX7_beginNode, Cond.selects RX7 yX7_beginNode yX7_beginNode, Cond.code yX7_beginNode cX7_beginNode 3 none, Cond.methodLink RX7 82 yX7_present, Cond.instanceMethod yX7_present, Cond.selects RX7 yX7_present yX7_present, Cond.code yX7_present cX7_present 1 (some .int), Cond.methodLink RX1 120 ⟨"LayoutPress$Kind", "ordinal", "()I"⟩, Cond.sameMethod "LayoutPress$Kind" "java/lang/Enum" "ordinal" "()I", Cond.selects RX3 ⟨"LayoutPress$Kind", "ordinal", "()I"⟩ yJx29ce0_ordinal_8abf5, Cond.instanceMethod yJx29ce0_ordinal_8abf5, Cond.initialized RJx29ce0, Cond.code yJx29ce0_ordinal_8abf5 cJx29ce0_ordinal_8abf5 1 (some .int), Cond.fieldLink RJx29ce0 7 "java/lang/Enum" "ordinal" "I", Cond.methodLink RX1 138 yX1_decide, Cond.instanceMethod yX1_decide, Cond.selects RX1 yX1_decide yX1_decide, Cond.code yX1_decide cX1_decide 2 (some .int), Cond.static yX10_wayIn, Cond.code yX10_wayIn cX10_wayIn 2 (some .int), Cond.methodLink RX10 273 yX10_wayBit, Cond.static yX10_wayBit]
def wsX10_printGreedy_r6 : List Cond := [Cond.code yX10_wayBit cX10_wayBit 1 (some .int), Cond.methodLink RX1 97 yX7_tell, Cond.instanceMethod yX7_tell, Cond.selects RX7 yX7_tell yX7_tell, Cond.code yX7_tell cX7_tell 2 none, Cond.methodLink RX1 84 yX7_present, Cond.methodLink RX1 145 yX7_keepTogether, Cond.instanceMethod yX7_keepTogether, Cond.selects RX7 yX7_keepTogether yX7_keepTogether, Cond.code yX7_keepTogether cX7_keepTogether 4 none, Cond.methodLink RX1 149 yX9_padding, Cond.instanceMethod yX9_padding, Cond.selects RX9 yX9_padding yX9_padding, Cond.code yX9_padding cX9_padding 3 (some .int), Cond.methodLink RX1 153 yX7_putBlanks, Cond.instanceMethod yX7_putBlanks, Cond.selects RX7 yX7_putBlanks yX7_putBlanks, Cond.code yX7_putBlanks cX7_putBlanks 2 none, Cond.methodLink RX1 156 yX1_putLeaf, Cond.instanceMethod yX1_putLeaf, Cond.selects RX1 yX1_putLeaf yX1_putLeaf, Cond.code yX1_putLeaf cX1_putLeaf 4 none, Cond.fieldLink RX1 163 "LayoutPress$Kind" "TAB" "LLayoutPress$Kind;", Cond.methodLink RX1 166 yX7_putTab]
def wsX10_printGreedy_r7 : List Cond := [Cond.instanceMethod yX7_putTab, Cond.selects RX7 yX7_putTab yX7_putTab, Cond.code yX7_putTab cX7_putTab 2 none, Cond.methodLink RX1 169 yX3_endsLine, Cond.instanceMethod yX3_endsLine, Cond.selects RX3 yX3_endsLine yX3_endsLine, Cond.initialized RX3, Cond.code yX3_endsLine cX3_endsLine 1 (some .boolean), Cond.fieldLink RX3 10 "LayoutPress$Kind" "LINE" "LLayoutPress$Kind;", Cond.fieldLink RX3 13 "LayoutPress$Kind" "SOFT" "LLayoutPress$Kind;", Cond.fieldLink RX3 16 "LayoutPress$Kind" "HARD" "LLayoutPress$Kind;", Cond.methodLink RX1 172 yX7_putSigns, Cond.instanceMethod yX7_putSigns, Cond.selects RX7 yX7_putSigns yX7_putSigns, Cond.code yX7_putSigns cX7_putSigns 3 none, Cond.fieldLink RX7 32 "LayoutPress$Sheet" "owners" "[LLayoutPress$Node;", Cond.fieldLink RX7 36 "LayoutPress$Sheet" "ownerLines" "[I", Cond.fieldLink RX7 39 "LayoutPress$Sheet" "ownerColumns" "[I", Cond.fieldLink RX7 93 "LayoutPress$Kind" "REMARK" "LLayoutPress$Kind;", Cond.methodLink RX1 178 yX1_endLine, Cond.instanceMethod yX1_endLine, Cond.selects RX1 yX1_endLine yX1_endLine, Cond.code yX1_endLine cX1_endLine 2 none, Cond.methodLink RX1 101 yX7_beginLine]
def wsX10_printGreedy_r8 : List Cond := [Cond.methodLink RX1 80 yX1_presentLineFits, Cond.instanceMethod yX1_presentLineFits, Cond.selects RX1 yX1_presentLineFits yX1_presentLineFits, Cond.code yX1_presentLineFits cX1_presentLineFits 2 (some .boolean), Cond.methodLink RX1 87 yX7_firstOf, Cond.instanceMethod yX7_firstOf, Cond.selects RX7 yX7_firstOf yX7_firstOf, Cond.code yX7_firstOf cX7_firstOf 2 (some .int), Cond.methodLink RX1 90 yX7_endOf, Cond.instanceMethod yX7_endOf, Cond.selects RX7 yX7_endOf yX7_endOf, Cond.code yX7_endOf cX7_endOf 2 (some .int), Cond.methodLink RX1 93 yX9_holds, Cond.instanceMethod yX9_holds, Cond.selects RX9 yX9_holds yX9_holds, Cond.code yX9_holds cX9_holds 3 (some .boolean), Cond.methodLink RX10 162 yX10_takeSheet, Cond.instanceMethod yX10_takeSheet, Cond.selects RX10 yX10_takeSheet yX10_takeSheet, Cond.code yX10_takeSheet cX10_takeSheet 1 (some .int), Cond.fieldLink RX10 52 "LayoutPress" "printed" "LLayoutPress$Sheet;", Cond.fieldLink RX10 45 "LayoutPress" "pages" "LLayoutPress$Pages;", Cond.methodLink RX10 262 yX1_exchange, Cond.instanceMethod yX1_exchange]
def wsX10_printGreedy_r9 : List Cond := [Cond.selects RX1 yX1_exchange yX1_exchange, Cond.code yX1_exchange cX1_exchange 3 (some (.object "LayoutPress$Sheet")), Cond.methodLink RX10 266 yX5_forget, Cond.instanceMethod yX5_forget, Cond.selects RX5 yX5_forget yX5_forget, Cond.initialized RX5, Cond.code yX5_forget cX5_forget 1 none, Cond.fieldLink RX5 24 "LayoutPress$Pages" "areBroken" "Z", Cond.methodLink RX10 269 yX9_costOf, Cond.instanceMethod yX9_costOf, Cond.selects RX9 yX9_costOf yX9_costOf, Cond.code yX9_costOf cX9_costOf 5 (some .long), Cond.methodLink RX9 74 yX7_firstOf, Cond.methodLink RX9 78 yX7_endOf, Cond.methodLink RX9 81 yX9_lineCost, Cond.instanceMethod yX9_lineCost, Cond.selects RX9 yX9_lineCost yX9_lineCost, Cond.code yX9_lineCost cX9_lineCost 7 (some .long), Cond.methodLink RX9 60 Lib.Math.max.name]
def wsX10_printGreedy : List Cond := .code yX10_printGreedy cX10_printGreedy 6 (some .int) :: ((wsX10_printGreedy_r1 ++ (wsX10_printGreedy_r2 ++ (wsX10_printGreedy_r3 ++ (wsX10_printGreedy_r4 ++ (wsX10_printGreedy_r5 ++ (wsX10_printGreedy_r6 ++ (wsX10_printGreedy_r7 ++ (wsX10_printGreedy_r8 ++ wsX10_printGreedy_r9)))))))) ++ wsX100 ++ wsX90 ++ wsX40 ++ wsX10 ++ wsX70 ++ wsX50 ++ (vx_atS RX10 130 "java/lang/IllegalStateException" ["java/lang/RuntimeException", "java/lang/Exception"]).filter goodWord ++ (vx_atS RX10 212 "java/lang/IndexOutOfBoundsException" ["java/lang/RuntimeException", "java/lang/Exception"]).filter goodWord ++ (vx_atS RX10 238 "java/lang/IllegalArgumentException" ["java/lang/RuntimeException", "java/lang/Exception"]).filter goodWord ++ (vx_atM "java/lang/ArrayIndexOutOfBoundsException" ["java/lang/IndexOutOfBoundsException", "java/lang/RuntimeException", "java/lang/Exception"]).filter goodWord)
def wsX10_lines : List Cond := .code yX10_lines cX10_lines 1 (some .int) :: ([.fieldLink RX10 52 "LayoutPress" "printed" "LLayoutPress$Sheet;"] ++ wsX100 ++ wsX70)
def wsX10_checkLine : List Cond := .code yX10_checkLine cX10_checkLine 2 none :: ([.classLink RX10 208 "java/lang/IndexOutOfBoundsException", .initialized "java/lang/IndexOutOfBoundsException", .fieldLink RX10 52 "LayoutPress" "printed" "LLayoutPress$Sheet;"] ++ wsX100 ++ wsX70 ++ (vx_atS RX10 212 "java/lang/IndexOutOfBoundsException" ["java/lang/RuntimeException", "java/lang/Exception"]).filter goodWord)
def wsX10_length : List Cond := .code yX10_length cX10_length 2 (some .int) :: ([.fieldLink RX10 52 "LayoutPress" "printed" "LLayoutPress$Sheet;", .methodLink RX10 179 yX10_checkLine, .instanceMethod yX10_checkLine, .selects RX10 yX10_checkLine yX10_checkLine, .initialized RX10, .code yX10_checkLine cX10_checkLine 2 none, .classLink RX10 208 "java/lang/IndexOutOfBoundsException", .initialized "java/lang/IndexOutOfBoundsException", .methodLink RX10 183 yX7_endOf, .instanceMethod yX7_endOf, .selects RX7 yX7_endOf yX7_endOf, .initialized RX7, .code yX7_endOf cX7_endOf 2 (some .int), .fieldLink RX7 42 "LayoutPress$Sheet" "lineCount" "I", .fieldLink RX7 15 "LayoutPress$Sheet" "ends" "[I"] ++ wsX100 ++ wsX70 ++ (vx_atS RX10 212 "java/lang/IndexOutOfBoundsException" ["java/lang/RuntimeException", "java/lang/Exception"]).filter goodWord ++ (vx_atM "java/lang/ArrayIndexOutOfBoundsException" ["java/lang/IndexOutOfBoundsException", "java/lang/RuntimeException", "java/lang/Exception"]).filter goodWord)
def wsX10_checkColumn : List Cond := .code yX10_checkColumn cX10_checkColumn 3 none :: ([.classLink RX10 208 "java/lang/IndexOutOfBoundsException", .initialized "java/lang/IndexOutOfBoundsException", .fieldLink RX10 52 "LayoutPress" "printed" "LLayoutPress$Sheet;", .methodLink RX10 179 yX10_checkLine, .instanceMethod yX10_checkLine, .selects RX10 yX10_checkLine yX10_checkLine, .initialized RX10, .code yX10_checkLine cX10_checkLine 2 none, .methodLink RX10 183 yX7_endOf, .instanceMethod yX7_endOf, .selects RX7 yX7_endOf yX7_endOf, .initialized RX7, .code yX7_endOf cX7_endOf 2 (some .int), .fieldLink RX7 42 "LayoutPress$Sheet" "lineCount" "I", .fieldLink RX7 15 "LayoutPress$Sheet" "ends" "[I"] ++ wsX100 ++ wsX70 ++ (vx_atS RX10 212 "java/lang/IndexOutOfBoundsException" ["java/lang/RuntimeException", "java/lang/Exception"]).filter goodWord ++ (vx_atM "java/lang/ArrayIndexOutOfBoundsException" ["java/lang/IndexOutOfBoundsException", "java/lang/RuntimeException", "java/lang/Exception"]).filter goodWord)
def wsX10_signAt_r1 : List Cond := [Cond.fieldLink RX10 52 "LayoutPress" "printed" "LLayoutPress$Sheet;", Cond.methodLink RX10 187 yX10_checkColumn, Cond.instanceMethod yX10_checkColumn, Cond.selects RX10 yX10_checkColumn yX10_checkColumn, Cond.initialized RX10, Cond.code yX10_checkColumn cX10_checkColumn 3 none, Cond.classLink RX10 208 "java/lang/IndexOutOfBoundsException", Cond.initialized "java/lang/IndexOutOfBoundsException", Cond.methodLink RX10 179 yX10_checkLine, Cond.instanceMethod yX10_checkLine, Cond.selects RX10 yX10_checkLine yX10_checkLine, Cond.code yX10_checkLine cX10_checkLine 2 none, Cond.methodLink RX10 183 yX7_endOf, Cond.instanceMethod yX7_endOf, Cond.selects RX7 yX7_endOf yX7_endOf, Cond.initialized RX7, Cond.code yX7_endOf cX7_endOf 2 (some .int), Cond.fieldLink RX7 42 "LayoutPress$Sheet" "lineCount" "I", Cond.fieldLink RX7 15 "LayoutPress$Sheet" "ends" "[I", Cond.methodLink RX10 191 yX7_ownerOf, Cond.instanceMethod yX7_ownerOf, Cond.selects RX7 yX7_ownerOf yX7_ownerOf, Cond.code yX7_ownerOf cX7_ownerOf 6 (some (.object "LayoutPress$Node")), Cond.fieldLink RX7 60 "LayoutPress$Sheet" "ownerCount" "I"]
def wsX10_signAt_r2 : List Cond := [Cond.fieldLink RX7 32 "LayoutPress$Sheet" "owners" "[LLayoutPress$Node;", Cond.fieldLink RX7 39 "LayoutPress$Sheet" "ownerColumns" "[I", Cond.fieldLink RX7 36 "LayoutPress$Sheet" "ownerLines" "[I", Cond.methodLink RX10 195 yX4_sign, Cond.instanceMethod yX4_sign, Cond.selects RX4 yX4_sign yX4_sign, Cond.initialized RX4, Cond.code yX4_sign cX4_sign 1 (some .char), Cond.fieldLink RX4 9 "LayoutPress$Node" "kind" "LLayoutPress$Kind;", Cond.fieldLink RX4 123 "LayoutPress$Kind" "REMARK" "LLayoutPress$Kind;", Cond.fieldLink RX4 15 "LayoutPress$Node" "value" "I"]
def wsX10_signAt : List Cond := .code yX10_signAt cX10_signAt 4 (some .char) :: ((wsX10_signAt_r1 ++ wsX10_signAt_r2) ++ wsX100 ++ wsX70 ++ wsX40 ++ (vx_atS RX10 212 "java/lang/IndexOutOfBoundsException" ["java/lang/RuntimeException", "java/lang/Exception"]).filter goodWord ++ (vx_atM "java/lang/ArrayIndexOutOfBoundsException" ["java/lang/IndexOutOfBoundsException", "java/lang/RuntimeException", "java/lang/Exception"]).filter goodWord)
def wsX10_nodeAt_r1 : List Cond := [Cond.fieldLink RX10 52 "LayoutPress" "printed" "LLayoutPress$Sheet;", Cond.methodLink RX10 187 yX10_checkColumn, Cond.instanceMethod yX10_checkColumn, Cond.selects RX10 yX10_checkColumn yX10_checkColumn, Cond.initialized RX10, Cond.code yX10_checkColumn cX10_checkColumn 3 none, Cond.classLink RX10 208 "java/lang/IndexOutOfBoundsException", Cond.initialized "java/lang/IndexOutOfBoundsException", Cond.methodLink RX10 179 yX10_checkLine, Cond.instanceMethod yX10_checkLine, Cond.selects RX10 yX10_checkLine yX10_checkLine, Cond.code yX10_checkLine cX10_checkLine 2 none, Cond.methodLink RX10 183 yX7_endOf, Cond.instanceMethod yX7_endOf, Cond.selects RX7 yX7_endOf yX7_endOf, Cond.initialized RX7, Cond.code yX7_endOf cX7_endOf 2 (some .int), Cond.fieldLink RX7 42 "LayoutPress$Sheet" "lineCount" "I", Cond.fieldLink RX7 15 "LayoutPress$Sheet" "ends" "[I", Cond.methodLink RX10 191 yX7_ownerOf, Cond.instanceMethod yX7_ownerOf, Cond.selects RX7 yX7_ownerOf yX7_ownerOf, Cond.code yX7_ownerOf cX7_ownerOf 6 (some (.object "LayoutPress$Node")), Cond.fieldLink RX7 60 "LayoutPress$Sheet" "ownerCount" "I"]
def wsX10_nodeAt_r2 : List Cond := [Cond.fieldLink RX7 32 "LayoutPress$Sheet" "owners" "[LLayoutPress$Node;", Cond.fieldLink RX7 39 "LayoutPress$Sheet" "ownerColumns" "[I", Cond.fieldLink RX7 36 "LayoutPress$Sheet" "ownerLines" "[I"]
def wsX10_nodeAt : List Cond := .code yX10_nodeAt cX10_nodeAt 4 (some .int) :: ((wsX10_nodeAt_r1 ++ wsX10_nodeAt_r2) ++ wsX100 ++ wsX40 ++ wsX70 ++ (vx_atS RX10 212 "java/lang/IndexOutOfBoundsException" ["java/lang/RuntimeException", "java/lang/Exception"]).filter goodWord ++ (vx_atM "java/lang/ArrayIndexOutOfBoundsException" ["java/lang/IndexOutOfBoundsException", "java/lang/RuntimeException", "java/lang/Exception"]).filter goodWord)
def wsX10_placeOf : List Cond := .code yX10_placeOf cX10_placeOf 2 (some .int) :: ([.fieldLink RX10 52 "LayoutPress" "printed" "LLayoutPress$Sheet;", .methodLink RX10 91 yX10_nodeOf, .instanceMethod yX10_nodeOf, .selects RX10 yX10_nodeOf yX10_nodeOf, .initialized RX10, .code yX10_nodeOf cX10_nodeOf 3 (some (.object "LayoutPress$Node")), .classLink RX10 208 "java/lang/IndexOutOfBoundsException", .initialized "java/lang/IndexOutOfBoundsException", .fieldLink RX10 15 "LayoutPress" "madeCount" "I", .fieldLink RX10 11 "LayoutPress" "made" "[LLayoutPress$Node;", .methodLink RX10 202 yX7_startOf, .instanceMethod yX7_startOf, .selects RX7 yX7_startOf yX7_startOf, .initialized RX7, .code yX7_startOf cX7_startOf 3 (some .int), .fieldLink RX7 21 "LayoutPress$Sheet" "starts" "[I"] ++ wsX100 ++ wsX40 ++ wsX70 ++ (vx_atS RX10 212 "java/lang/IndexOutOfBoundsException" ["java/lang/RuntimeException", "java/lang/Exception"]).filter goodWord ++ (vx_atM "java/lang/ArrayIndexOutOfBoundsException" ["java/lang/IndexOutOfBoundsException", "java/lang/RuntimeException", "java/lang/Exception"]).filter goodWord)
def wsX10_decisions : List Cond := .code yX10_decisions cX10_decisions 1 (some .int) :: ([.fieldLink RX10 52 "LayoutPress" "printed" "LLayoutPress$Sheet;"] ++ wsX100 ++ wsX70)
def wsX10_wayAt : List Cond := .code yX10_wayAt cX10_wayAt 2 (some .int) :: ([.classLink RX10 208 "java/lang/IndexOutOfBoundsException", .initialized "java/lang/IndexOutOfBoundsException", .fieldLink RX10 52 "LayoutPress" "printed" "LLayoutPress$Sheet;", .methodLink RX10 216 yX10_wayIn, .static yX10_wayIn, .initialized RX10, .code yX10_wayIn cX10_wayIn 2 (some .int), .methodLink RX10 273 yX10_wayBit, .static yX10_wayBit, .code yX10_wayBit cX10_wayBit 1 (some .int)] ++ wsX100 ++ wsX70 ++ (vx_atS RX10 212 "java/lang/IndexOutOfBoundsException" ["java/lang/RuntimeException", "java/lang/Exception"]).filter goodWord)
def wsX10_breakPages_r1 : List Cond := [Cond.classLink RX10 126 "java/lang/IllegalStateException", Cond.initialized "java/lang/IllegalStateException", Cond.fieldLink RX10 52 "LayoutPress" "printed" "LLayoutPress$Sheet;", Cond.fieldLink RX10 45 "LayoutPress" "pages" "LLayoutPress$Pages;", Cond.methodLink RX10 56 yX10_checkRange, Cond.static yX10_checkRange, Cond.initialized RX10, Cond.code yX10_checkRange cX10_checkRange 3 none, Cond.classLink RX10 234 "java/lang/IllegalArgumentException", Cond.initialized "java/lang/IllegalArgumentException", Cond.methodLink RX10 222 yX5_breakSheet, Cond.instanceMethod yX5_breakSheet, Cond.selects RX5 yX5_breakSheet yX5_breakSheet, Cond.initialized RX5, Cond.code yX5_breakSheet cX5_breakSheet 5 (some .int), Cond.methodLink RX5 34 Lib.Math.min.name, Cond.static Lib.Math.min.name, Cond.initialized "java/lang/Math", Cond.code Lib.Math.min.name Lib.Math.min.code 2 (some .int), Cond.fieldLink RX5 15 "LayoutPress$Pages" "cost" "[I", Cond.fieldLink RX5 18 "LayoutPress$Pages" "count" "[I", Cond.fieldLink RX5 24 "LayoutPress$Pages" "areBroken" "Z", Cond.methodLink RX5 40 yX5_choosePage, Cond.instanceMethod yX5_choosePage]
def wsX10_breakPages_r2 : List Cond := [Cond.selects RX5 yX5_choosePage yX5_choosePage, Cond.code yX5_choosePage cX5_choosePage 12 none, Cond.fieldLink RX5 21 "LayoutPress$Pages" "firstHeight" "[I", Cond.methodLink RX5 48 yX7_cutCostOf, Cond.instanceMethod yX7_cutCostOf, Cond.selects RX7 yX7_cutCostOf yX7_cutCostOf, Cond.initialized RX7, Cond.code yX7_cutCostOf cX7_cutCostOf 2 (some .int), Cond.fieldLink RX7 42 "LayoutPress$Sheet" "lineCount" "I", Cond.fieldLink RX7 18 "LayoutPress$Sheet" "cutCosts" "[I", Cond.methodLink RX5 44 yX5_numberLines, Cond.instanceMethod yX5_numberLines, Cond.selects RX5 yX5_numberLines yX5_numberLines, Cond.code yX5_numberLines cX5_numberLines 5 none, Cond.fieldLink RX5 9 "LayoutPress$Pages" "pageOfLine" "[I"]
def wsX10_breakPages : List Cond := .code yX10_breakPages cX10_breakPages 2 (some .int) :: ((wsX10_breakPages_r1 ++ wsX10_breakPages_r2) ++ wsX100 ++ wsX70 ++ wsX50 ++ (vx_atS RX10 130 "java/lang/IllegalStateException" ["java/lang/RuntimeException", "java/lang/Exception"]).filter goodWord ++ (vx_atS RX10 238 "java/lang/IllegalArgumentException" ["java/lang/RuntimeException", "java/lang/Exception"]).filter goodWord ++ (vx_atM "java/lang/ArrayIndexOutOfBoundsException" ["java/lang/IndexOutOfBoundsException", "java/lang/RuntimeException", "java/lang/Exception"]).filter goodWord)
def wsX10_pageOf : List Cond := .code yX10_pageOf cX10_pageOf 2 (some .int) :: ([.classLink RX10 126 "java/lang/IllegalStateException", .initialized "java/lang/IllegalStateException", .fieldLink RX10 45 "LayoutPress" "pages" "LLayoutPress$Pages;", .methodLink RX10 179 yX10_checkLine, .instanceMethod yX10_checkLine, .selects RX10 yX10_checkLine yX10_checkLine, .initialized RX10, .code yX10_checkLine cX10_checkLine 2 none, .classLink RX10 208 "java/lang/IndexOutOfBoundsException", .initialized "java/lang/IndexOutOfBoundsException", .fieldLink RX10 52 "LayoutPress" "printed" "LLayoutPress$Sheet;", .methodLink RX10 231 yX5_pageWith, .instanceMethod yX5_pageWith, .selects RX5 yX5_pageWith yX5_pageWith, .initialized RX5, .code yX5_pageWith cX5_pageWith 2 (some .int), .fieldLink RX5 9 "LayoutPress$Pages" "pageOfLine" "[I"] ++ wsX100 ++ wsX50 ++ wsX70 ++ (vx_atS RX10 130 "java/lang/IllegalStateException" ["java/lang/RuntimeException", "java/lang/Exception"]).filter goodWord ++ (vx_atS RX10 212 "java/lang/IndexOutOfBoundsException" ["java/lang/RuntimeException", "java/lang/Exception"]).filter goodWord ++ (vx_atM "java/lang/ArrayIndexOutOfBoundsException" ["java/lang/IndexOutOfBoundsException", "java/lang/RuntimeException", "java/lang/Exception"]).filter goodWord)
def wsX11_init_r1 : List Cond := [Cond.methodLink RX11 1 objectInit, Cond.instanceMethod objectInit, Cond.code objectInit ⟨#[0xb1]⟩ 1 none, Cond.arrayClass .int, Cond.fieldLink RX11 7 "LayoutPressModel" "kinds" "[I", Cond.fieldLink RX11 13 "LayoutPressModel" "ones" "[I", Cond.fieldLink RX11 16 "LayoutPressModel" "counts" "[I", Cond.fieldLink RX11 19 "LayoutPressModel" "firsts" "[I", Cond.fieldLink RX11 22 "LayoutPressModel" "seconds" "[I", Cond.fieldLink RX11 25 "LayoutPressModel" "sizes" "[I", Cond.fieldLink RX11 28 "LayoutPressModel" "flatWays" "[I", Cond.fieldLink RX11 31 "LayoutPressModel" "ways" "[I", Cond.fieldLink RX11 34 "LayoutPressModel" "flatLayouts" "[I", Cond.fieldLink RX11 37 "LayoutPressModel" "layouts" "[I", Cond.fieldLink RX11 40 "LayoutPressModel" "flatWidths" "[I", Cond.arrayClass .boolean, Cond.fieldLink RX11 43 "LayoutPressModel" "isNoCell" "[Z", Cond.fieldLink RX11 47 "LayoutPressModel" "stepKinds" "[I", Cond.fieldLink RX11 50 "LayoutPressModel" "stepNodes" "[I", Cond.fieldLink RX11 53 "LayoutPressModel" "enters" "[I", Cond.fieldLink RX11 56 "LayoutPressModel" "mids" "[I", Cond.fieldLink RX11 59 "LayoutPressModel" "leaves" "[I", Cond.fieldLink RX11 62 "LayoutPressModel" "isForWithin" "[Z", Cond.fieldLink RX11 65 "LayoutPressModel" "isForBehind" "[Z"]
def wsX11_init_r2 : List Cond := [Cond.fieldLink RX11 68 "LayoutPressModel" "regions" "[I", Cond.fieldLink RX11 71 "LayoutPressModel" "lastEnds" "[I", Cond.fieldLink RX11 74 "LayoutPressModel" "work" "[I", Cond.fieldLink RX11 77 "LayoutPressModel" "cellWidths" "[I", Cond.constant RX11 80 (100000), Cond.fieldLink RX11 81 "LayoutPressModel" "columns" "[I", Cond.fieldLink RX11 84 "LayoutPressModel" "starts" "[I", Cond.fieldLink RX11 87 "LayoutPressModel" "ends" "[I", Cond.fieldLink RX11 90 "LayoutPressModel" "isRemarked" "[Z", Cond.fieldLink RX11 93 "LayoutPressModel" "flats" "[I", Cond.fieldLink RX11 96 "LayoutPressModel" "indents" "[I", Cond.fieldLink RX11 99 "LayoutPressModel" "aheads" "[I", Cond.fieldLink RX11 102 "LayoutPressModel" "passes" "[I", Cond.fieldLink RX11 105 "LayoutPressModel" "costs" "[I", Cond.fieldLink RX11 108 "LayoutPressModel" "lineEnds" "[I", Cond.fieldLink RX11 111 "LayoutPressModel" "bits" "[I", Cond.fieldLink RX11 114 "LayoutPressModel" "told" "[I", Cond.fieldLink RX11 117 "LayoutPressModel" "isGone" "[Z", Cond.constant RX11 120 (262144), Cond.fieldLink RX11 121 "LayoutPressModel" "slots" "[I", Cond.fieldLink RX11 124 "LayoutPressModel" "slotRounds" "[I", Cond.constant RX11 127 (200000), Cond.fieldLink RX11 128 "LayoutPressModel" "aheadOf" "[I", Cond.fieldLink RX11 131 "LayoutPressModel" "indentOf" "[I"]
def wsX11_init_r3 : List Cond := [Cond.fieldLink RX11 134 "LayoutPressModel" "nextAhead" "[I", Cond.fieldLink RX11 137 "LayoutPressModel" "aheadHeads" "[I", Cond.fieldLink RX11 140 "LayoutPressModel" "given" "[I", Cond.fieldLink RX11 143 "LayoutPressModel" "openIndents" "[I", Cond.fieldLink RX11 146 "LayoutPressModel" "rowLines" "[I", Cond.fieldLink RX11 149 "LayoutPressModel" "rowColumns" "[I", Cond.fieldLink RX11 152 "LayoutPressModel" "rowNodes" "[I", Cond.fieldLink RX11 155 "LayoutPressModel" "places" "[I", Cond.fieldLink RX11 158 "LayoutPressModel" "printed" "[I", Cond.fieldLink RX11 161 "LayoutPressModel" "keepFroms" "[I", Cond.fieldLink RX11 164 "LayoutPressModel" "keepTos" "[I", Cond.fieldLink RX11 167 "LayoutPressModel" "keepCosts" "[I", Cond.fieldLink RX11 170 "LayoutPressModel" "enterLines" "[I", Cond.fieldLink RX11 173 "LayoutPressModel" "pageOfLine" "[I", Cond.fieldLink RX11 176 "LayoutPressModel" "bestWays" "[I", Cond.fieldLink RX11 179 "LayoutPressModel" "pageCosts" "[I", Cond.fieldLink RX11 182 "LayoutPressModel" "pagesFrom" "[I", Cond.fieldLink RX11 185 "LayoutPressModel" "firstLines" "[I", Cond.fieldLink RX11 188 "LayoutPressModel" "nodeMany" "I"]
def wsX11_init : List Cond := .code yX11_init cX11_init 1 none :: ((wsX11_init_r1 ++ (wsX11_init_r2 ++ wsX11_init_r3)) ++ wsX110)
def wsX11_thrown : List Cond := .code yX11_thrown cX11_thrown 1 (some .int) :: ([.fieldLink RX11 192 "LayoutPressModel" "thrown" "I"] ++ wsX110)
def wsX11_in : List Cond := .code yX11_in cX11_in 3 (some .boolean) :: ([])
def wsX11_isNode : List Cond := .code yX11_isNode cX11_isNode 2 (some .boolean) :: ([.fieldLink RX11 188 "LayoutPressModel" "nodeMany" "I", .methodLink RX11 195 yX11_in, .static yX11_in, .initialized RX11, .code yX11_in cX11_in 3 (some .boolean)] ++ wsX110)
def wsX11_leaf : List Cond := .code yX11_leaf cX11_leaf 5 (some .int) :: ([.fieldLink RX11 188 "LayoutPressModel" "nodeMany" "I", .fieldLink RX11 7 "LayoutPressModel" "kinds" "[I", .fieldLink RX11 13 "LayoutPressModel" "ones" "[I", .fieldLink RX11 16 "LayoutPressModel" "counts" "[I", .fieldLink RX11 19 "LayoutPressModel" "firsts" "[I", .fieldLink RX11 22 "LayoutPressModel" "seconds" "[I", .fieldLink RX11 25 "LayoutPressModel" "sizes" "[I", .fieldLink RX11 28 "LayoutPressModel" "flatWays" "[I", .fieldLink RX11 31 "LayoutPressModel" "ways" "[I", .fieldLink RX11 34 "LayoutPressModel" "flatLayouts" "[I", .fieldLink RX11 37 "LayoutPressModel" "layouts" "[I", .fieldLink RX11 40 "LayoutPressModel" "flatWidths" "[I", .fieldLink RX11 43 "LayoutPressModel" "isNoCell" "[Z"] ++ wsX110 ++ (vx_atM "java/lang/ArrayIndexOutOfBoundsException" ["java/lang/IndexOutOfBoundsException", "java/lang/RuntimeException", "java/lang/Exception"]).filter goodWord)
def wsX11_text : List Cond := .code yX11_text cX11_text 3 (some .int) :: ([.fieldLink RX11 188 "LayoutPressModel" "nodeMany" "I", .fieldLink RX11 192 "LayoutPressModel" "thrown" "I", .methodLink RX11 195 yX11_in, .static yX11_in, .initialized RX11, .code yX11_in cX11_in 3 (some .boolean), .methodLink RX11 214 yX11_leaf, .instanceMethod yX11_leaf, .selects RX11 yX11_leaf yX11_leaf, .code yX11_leaf cX11_leaf 5 (some .int), .fieldLink RX11 7 "LayoutPressModel" "kinds" "[I", .fieldLink RX11 13 "LayoutPressModel" "ones" "[I", .fieldLink RX11 16 "LayoutPressModel" "counts" "[I", .fieldLink RX11 19 "LayoutPressModel" "firsts" "[I", .fieldLink RX11 22 "LayoutPressModel" "seconds" "[I", .fieldLink RX11 25 "LayoutPressModel" "sizes" "[I", .fieldLink RX11 28 "LayoutPressModel" "flatWays" "[I", .fieldLink RX11 31 "LayoutPressModel" "ways" "[I", .fieldLink RX11 34 "LayoutPressModel" "flatLayouts" "[I", .fieldLink RX11 37 "LayoutPressModel" "layouts" "[I", .fieldLink RX11 40 "LayoutPressModel" "flatWidths" "[I", .fieldLink RX11 43 "LayoutPressModel" "isNoCell" "[Z"] ++ wsX110 ++ (vx_atM "java/lang/ArrayIndexOutOfBoundsException" ["java/lang/IndexOutOfBoundsException", "java/lang/RuntimeException", "java/lang/Exception"]).filter goodWord)
def wsX11_remark : List Cond := .code yX11_remark cX11_remark 3 (some .int) :: ([.fieldLink RX11 188 "LayoutPressModel" "nodeMany" "I", .fieldLink RX11 192 "LayoutPressModel" "thrown" "I", .methodLink RX11 195 yX11_in, .static yX11_in, .initialized RX11, .code yX11_in cX11_in 3 (some .boolean), .methodLink RX11 214 yX11_leaf, .instanceMethod yX11_leaf, .selects RX11 yX11_leaf yX11_leaf, .code yX11_leaf cX11_leaf 5 (some .int), .fieldLink RX11 7 "LayoutPressModel" "kinds" "[I", .fieldLink RX11 13 "LayoutPressModel" "ones" "[I", .fieldLink RX11 16 "LayoutPressModel" "counts" "[I", .fieldLink RX11 19 "LayoutPressModel" "firsts" "[I", .fieldLink RX11 22 "LayoutPressModel" "seconds" "[I", .fieldLink RX11 25 "LayoutPressModel" "sizes" "[I", .fieldLink RX11 28 "LayoutPressModel" "flatWays" "[I", .fieldLink RX11 31 "LayoutPressModel" "ways" "[I", .fieldLink RX11 34 "LayoutPressModel" "flatLayouts" "[I", .fieldLink RX11 37 "LayoutPressModel" "layouts" "[I", .fieldLink RX11 40 "LayoutPressModel" "flatWidths" "[I", .fieldLink RX11 43 "LayoutPressModel" "isNoCell" "[Z"] ++ wsX110 ++ (vx_atM "java/lang/ArrayIndexOutOfBoundsException" ["java/lang/IndexOutOfBoundsException", "java/lang/RuntimeException", "java/lang/Exception"]).filter goodWord)
def wsX11_end : List Cond := .code yX11_end cX11_end 2 (some .int) :: ([.fieldLink RX11 188 "LayoutPressModel" "nodeMany" "I", .fieldLink RX11 192 "LayoutPressModel" "thrown" "I", .methodLink RX11 214 yX11_leaf, .instanceMethod yX11_leaf, .selects RX11 yX11_leaf yX11_leaf, .initialized RX11, .code yX11_leaf cX11_leaf 5 (some .int), .fieldLink RX11 7 "LayoutPressModel" "kinds" "[I", .fieldLink RX11 13 "LayoutPressModel" "ones" "[I", .fieldLink RX11 16 "LayoutPressModel" "counts" "[I", .fieldLink RX11 19 "LayoutPressModel" "firsts" "[I", .fieldLink RX11 22 "LayoutPressModel" "seconds" "[I", .fieldLink RX11 25 "LayoutPressModel" "sizes" "[I", .fieldLink RX11 28 "LayoutPressModel" "flatWays" "[I", .fieldLink RX11 31 "LayoutPressModel" "ways" "[I", .fieldLink RX11 34 "LayoutPressModel" "flatLayouts" "[I", .fieldLink RX11 37 "LayoutPressModel" "layouts" "[I", .fieldLink RX11 40 "LayoutPressModel" "flatWidths" "[I", .fieldLink RX11 43 "LayoutPressModel" "isNoCell" "[Z"] ++ wsX110 ++ (vx_atM "java/lang/ArrayIndexOutOfBoundsException" ["java/lang/IndexOutOfBoundsException", "java/lang/RuntimeException", "java/lang/Exception"]).filter goodWord)
def wsX11_line : List Cond := .code yX11_line cX11_line 1 (some .int) :: ([.methodLink RX11 218 yX11_end, .instanceMethod yX11_end, .selects RX11 yX11_end yX11_end, .initialized RX11, .code yX11_end cX11_end 2 (some .int), .fieldLink RX11 188 "LayoutPressModel" "nodeMany" "I", .fieldLink RX11 192 "LayoutPressModel" "thrown" "I", .methodLink RX11 214 yX11_leaf, .instanceMethod yX11_leaf, .selects RX11 yX11_leaf yX11_leaf, .code yX11_leaf cX11_leaf 5 (some .int), .fieldLink RX11 7 "LayoutPressModel" "kinds" "[I", .fieldLink RX11 13 "LayoutPressModel" "ones" "[I", .fieldLink RX11 16 "LayoutPressModel" "counts" "[I", .fieldLink RX11 19 "LayoutPressModel" "firsts" "[I", .fieldLink RX11 22 "LayoutPressModel" "seconds" "[I", .fieldLink RX11 25 "LayoutPressModel" "sizes" "[I", .fieldLink RX11 28 "LayoutPressModel" "flatWays" "[I", .fieldLink RX11 31 "LayoutPressModel" "ways" "[I", .fieldLink RX11 34 "LayoutPressModel" "flatLayouts" "[I", .fieldLink RX11 37 "LayoutPressModel" "layouts" "[I", .fieldLink RX11 40 "LayoutPressModel" "flatWidths" "[I", .fieldLink RX11 43 "LayoutPressModel" "isNoCell" "[Z"] ++ wsX110 ++ (vx_atM "java/lang/ArrayIndexOutOfBoundsException" ["java/lang/IndexOutOfBoundsException", "java/lang/RuntimeException", "java/lang/Exception"]).filter goodWord)
def wsX11_soft : List Cond := .code yX11_soft cX11_soft 1 (some .int) :: ([.methodLink RX11 218 yX11_end, .instanceMethod yX11_end, .selects RX11 yX11_end yX11_end, .initialized RX11, .code yX11_end cX11_end 2 (some .int), .fieldLink RX11 188 "LayoutPressModel" "nodeMany" "I", .fieldLink RX11 192 "LayoutPressModel" "thrown" "I", .methodLink RX11 214 yX11_leaf, .instanceMethod yX11_leaf, .selects RX11 yX11_leaf yX11_leaf, .code yX11_leaf cX11_leaf 5 (some .int), .fieldLink RX11 7 "LayoutPressModel" "kinds" "[I", .fieldLink RX11 13 "LayoutPressModel" "ones" "[I", .fieldLink RX11 16 "LayoutPressModel" "counts" "[I", .fieldLink RX11 19 "LayoutPressModel" "firsts" "[I", .fieldLink RX11 22 "LayoutPressModel" "seconds" "[I", .fieldLink RX11 25 "LayoutPressModel" "sizes" "[I", .fieldLink RX11 28 "LayoutPressModel" "flatWays" "[I", .fieldLink RX11 31 "LayoutPressModel" "ways" "[I", .fieldLink RX11 34 "LayoutPressModel" "flatLayouts" "[I", .fieldLink RX11 37 "LayoutPressModel" "layouts" "[I", .fieldLink RX11 40 "LayoutPressModel" "flatWidths" "[I", .fieldLink RX11 43 "LayoutPressModel" "isNoCell" "[Z"] ++ wsX110 ++ (vx_atM "java/lang/ArrayIndexOutOfBoundsException" ["java/lang/IndexOutOfBoundsException", "java/lang/RuntimeException", "java/lang/Exception"]).filter goodWord)
def wsX11_hard : List Cond := .code yX11_hard cX11_hard 1 (some .int) :: ([.methodLink RX11 218 yX11_end, .instanceMethod yX11_end, .selects RX11 yX11_end yX11_end, .initialized RX11, .code yX11_end cX11_end 2 (some .int), .fieldLink RX11 188 "LayoutPressModel" "nodeMany" "I", .fieldLink RX11 192 "LayoutPressModel" "thrown" "I", .methodLink RX11 214 yX11_leaf, .instanceMethod yX11_leaf, .selects RX11 yX11_leaf yX11_leaf, .code yX11_leaf cX11_leaf 5 (some .int), .fieldLink RX11 7 "LayoutPressModel" "kinds" "[I", .fieldLink RX11 13 "LayoutPressModel" "ones" "[I", .fieldLink RX11 16 "LayoutPressModel" "counts" "[I", .fieldLink RX11 19 "LayoutPressModel" "firsts" "[I", .fieldLink RX11 22 "LayoutPressModel" "seconds" "[I", .fieldLink RX11 25 "LayoutPressModel" "sizes" "[I", .fieldLink RX11 28 "LayoutPressModel" "flatWays" "[I", .fieldLink RX11 31 "LayoutPressModel" "ways" "[I", .fieldLink RX11 34 "LayoutPressModel" "flatLayouts" "[I", .fieldLink RX11 37 "LayoutPressModel" "layouts" "[I", .fieldLink RX11 40 "LayoutPressModel" "flatWidths" "[I", .fieldLink RX11 43 "LayoutPressModel" "isNoCell" "[Z"] ++ wsX110 ++ (vx_atM "java/lang/ArrayIndexOutOfBoundsException" ["java/lang/IndexOutOfBoundsException", "java/lang/RuntimeException", "java/lang/Exception"]).filter goodWord)
def wsX11_tab : List Cond := .code yX11_tab cX11_tab 2 (some .int) :: ([.fieldLink RX11 188 "LayoutPressModel" "nodeMany" "I", .fieldLink RX11 192 "LayoutPressModel" "thrown" "I", .methodLink RX11 195 yX11_in, .static yX11_in, .initialized RX11, .code yX11_in cX11_in 3 (some .boolean), .methodLink RX11 214 yX11_leaf, .instanceMethod yX11_leaf, .selects RX11 yX11_leaf yX11_leaf, .code yX11_leaf cX11_leaf 5 (some .int), .fieldLink RX11 7 "LayoutPressModel" "kinds" "[I", .fieldLink RX11 13 "LayoutPressModel" "ones" "[I", .fieldLink RX11 16 "LayoutPressModel" "counts" "[I", .fieldLink RX11 19 "LayoutPressModel" "firsts" "[I", .fieldLink RX11 22 "LayoutPressModel" "seconds" "[I", .fieldLink RX11 25 "LayoutPressModel" "sizes" "[I", .fieldLink RX11 28 "LayoutPressModel" "flatWays" "[I", .fieldLink RX11 31 "LayoutPressModel" "ways" "[I", .fieldLink RX11 34 "LayoutPressModel" "flatLayouts" "[I", .fieldLink RX11 37 "LayoutPressModel" "layouts" "[I", .fieldLink RX11 40 "LayoutPressModel" "flatWidths" "[I", .fieldLink RX11 43 "LayoutPressModel" "isNoCell" "[Z"] ++ wsX110 ++ (vx_atM "java/lang/ArrayIndexOutOfBoundsException" ["java/lang/IndexOutOfBoundsException", "java/lang/RuntimeException", "java/lang/Exception"]).filter goodWord)
def wsX11_areNodes : List Cond := .code yX11_areNodes cX11_areNodes 3 (some .boolean) :: ([.fieldLink RX11 192 "LayoutPressModel" "thrown" "I", .methodLink RX11 222 yX11_isNode, .instanceMethod yX11_isNode, .selects RX11 yX11_isNode yX11_isNode, .initialized RX11, .code yX11_isNode cX11_isNode 2 (some .boolean), .fieldLink RX11 188 "LayoutPressModel" "nodeMany" "I", .methodLink RX11 195 yX11_in, .static yX11_in, .code yX11_in cX11_in 3 (some .boolean)] ++ wsX110)
def wsX11_pair_r1 : List Cond := [Cond.methodLink RX11 226 yX11_areNodes, Cond.instanceMethod yX11_areNodes, Cond.selects RX11 yX11_areNodes yX11_areNodes, Cond.initialized RX11, Cond.code yX11_areNodes cX11_areNodes 3 (some .boolean), Cond.fieldLink RX11 192 "LayoutPressModel" "thrown" "I", Cond.methodLink RX11 222 yX11_isNode, Cond.instanceMethod yX11_isNode, Cond.selects RX11 yX11_isNode yX11_isNode, Cond.code yX11_isNode cX11_isNode 2 (some .boolean), Cond.fieldLink RX11 188 "LayoutPressModel" "nodeMany" "I", Cond.methodLink RX11 195 yX11_in, Cond.static yX11_in, Cond.code yX11_in cX11_in 3 (some .boolean), Cond.methodLink RX11 230 yX11_made, Cond.instanceMethod yX11_made, Cond.selects RX11 yX11_made yX11_made, Cond.code yX11_made cX11_made 7 (some .int), Cond.methodLink RX11 210 yX11_lays, Cond.instanceMethod yX11_lays, Cond.selects RX11 yX11_lays yX11_lays, Cond.code yX11_lays cX11_lays 7 (some .boolean), Cond.fieldLink RX11 7 "LayoutPressModel" "kinds" "[I", Cond.fieldLink RX11 13 "LayoutPressModel" "ones" "[I"]
def wsX11_pair_r2 : List Cond := [Cond.fieldLink RX11 19 "LayoutPressModel" "firsts" "[I", Cond.fieldLink RX11 22 "LayoutPressModel" "seconds" "[I", Cond.fieldLink RX11 25 "LayoutPressModel" "sizes" "[I", Cond.fieldLink RX11 28 "LayoutPressModel" "flatWays" "[I", Cond.fieldLink RX11 31 "LayoutPressModel" "ways" "[I", Cond.fieldLink RX11 34 "LayoutPressModel" "flatLayouts" "[I", Cond.fieldLink RX11 37 "LayoutPressModel" "layouts" "[I", Cond.fieldLink RX11 40 "LayoutPressModel" "flatWidths" "[I", Cond.fieldLink RX11 43 "LayoutPressModel" "isNoCell" "[Z", Cond.methodLink RX11 202 yX11_capped, Cond.static yX11_capped, Cond.code yX11_capped cX11_capped 2 (some .int), Cond.constantLong RX11 199 (1000000), Cond.constant RX11 201 (1000000), Cond.methodLink RX11 206 yX11_greater, Cond.static yX11_greater, Cond.code yX11_greater cX11_greater 2 (some .int)]
def wsX11_pair : List Cond := .code yX11_pair cX11_pair 3 (some .int) :: ((wsX11_pair_r1 ++ wsX11_pair_r2) ++ wsX110 ++ (vx_atM "java/lang/ArrayIndexOutOfBoundsException" ["java/lang/IndexOutOfBoundsException", "java/lang/RuntimeException", "java/lang/Exception"]).filter goodWord)
def wsX11_isPart : List Cond := .code yX11_isPart cX11_isPart 3 (some .boolean) :: ([.fieldLink RX11 192 "LayoutPressModel" "thrown" "I", .methodLink RX11 222 yX11_isNode, .instanceMethod yX11_isNode, .selects RX11 yX11_isNode yX11_isNode, .initialized RX11, .code yX11_isNode cX11_isNode 2 (some .boolean), .fieldLink RX11 188 "LayoutPressModel" "nodeMany" "I", .methodLink RX11 195 yX11_in, .static yX11_in, .code yX11_in cX11_in 3 (some .boolean)] ++ wsX110)
def wsX11_nest_r1 : List Cond := [Cond.methodLink RX11 195 yX11_in, Cond.static yX11_in, Cond.initialized RX11, Cond.code yX11_in cX11_in 3 (some .boolean), Cond.methodLink RX11 234 yX11_isPart, Cond.instanceMethod yX11_isPart, Cond.selects RX11 yX11_isPart yX11_isPart, Cond.code yX11_isPart cX11_isPart 3 (some .boolean), Cond.fieldLink RX11 192 "LayoutPressModel" "thrown" "I", Cond.methodLink RX11 222 yX11_isNode, Cond.instanceMethod yX11_isNode, Cond.selects RX11 yX11_isNode yX11_isNode, Cond.code yX11_isNode cX11_isNode 2 (some .boolean), Cond.fieldLink RX11 188 "LayoutPressModel" "nodeMany" "I", Cond.methodLink RX11 230 yX11_made, Cond.instanceMethod yX11_made, Cond.selects RX11 yX11_made yX11_made, Cond.code yX11_made cX11_made 7 (some .int), Cond.methodLink RX11 210 yX11_lays, Cond.instanceMethod yX11_lays, Cond.selects RX11 yX11_lays yX11_lays, Cond.code yX11_lays cX11_lays 7 (some .boolean), Cond.fieldLink RX11 7 "LayoutPressModel" "kinds" "[I", Cond.fieldLink RX11 13 "LayoutPressModel" "ones" "[I"]
def wsX11_nest_r2 : List Cond := [Cond.fieldLink RX11 19 "LayoutPressModel" "firsts" "[I", Cond.fieldLink RX11 22 "LayoutPressModel" "seconds" "[I", Cond.fieldLink RX11 25 "LayoutPressModel" "sizes" "[I", Cond.fieldLink RX11 28 "LayoutPressModel" "flatWays" "[I", Cond.fieldLink RX11 31 "LayoutPressModel" "ways" "[I", Cond.fieldLink RX11 34 "LayoutPressModel" "flatLayouts" "[I", Cond.fieldLink RX11 37 "LayoutPressModel" "layouts" "[I", Cond.fieldLink RX11 40 "LayoutPressModel" "flatWidths" "[I", Cond.fieldLink RX11 43 "LayoutPressModel" "isNoCell" "[Z", Cond.methodLink RX11 202 yX11_capped, Cond.static yX11_capped, Cond.code yX11_capped cX11_capped 2 (some .int), Cond.constantLong RX11 199 (1000000), Cond.constant RX11 201 (1000000), Cond.methodLink RX11 206 yX11_greater, Cond.static yX11_greater, Cond.code yX11_greater cX11_greater 2 (some .int)]
def wsX11_nest : List Cond := .code yX11_nest cX11_nest 3 (some .int) :: ((wsX11_nest_r1 ++ wsX11_nest_r2) ++ wsX110 ++ (vx_atM "java/lang/ArrayIndexOutOfBoundsException" ["java/lang/IndexOutOfBoundsException", "java/lang/RuntimeException", "java/lang/Exception"]).filter goodWord)
def wsX11_align_r1 : List Cond := [Cond.methodLink RX11 234 yX11_isPart, Cond.instanceMethod yX11_isPart, Cond.selects RX11 yX11_isPart yX11_isPart, Cond.initialized RX11, Cond.code yX11_isPart cX11_isPart 3 (some .boolean), Cond.fieldLink RX11 192 "LayoutPressModel" "thrown" "I", Cond.methodLink RX11 222 yX11_isNode, Cond.instanceMethod yX11_isNode, Cond.selects RX11 yX11_isNode yX11_isNode, Cond.code yX11_isNode cX11_isNode 2 (some .boolean), Cond.fieldLink RX11 188 "LayoutPressModel" "nodeMany" "I", Cond.methodLink RX11 195 yX11_in, Cond.static yX11_in, Cond.code yX11_in cX11_in 3 (some .boolean), Cond.methodLink RX11 230 yX11_made, Cond.instanceMethod yX11_made, Cond.selects RX11 yX11_made yX11_made, Cond.code yX11_made cX11_made 7 (some .int), Cond.methodLink RX11 210 yX11_lays, Cond.instanceMethod yX11_lays, Cond.selects RX11 yX11_lays yX11_lays, Cond.code yX11_lays cX11_lays 7 (some .boolean), Cond.fieldLink RX11 7 "LayoutPressModel" "kinds" "[I", Cond.fieldLink RX11 13 "LayoutPressModel" "ones" "[I"]
def wsX11_align_r2 : List Cond := [Cond.fieldLink RX11 19 "LayoutPressModel" "firsts" "[I", Cond.fieldLink RX11 22 "LayoutPressModel" "seconds" "[I", Cond.fieldLink RX11 25 "LayoutPressModel" "sizes" "[I", Cond.fieldLink RX11 28 "LayoutPressModel" "flatWays" "[I", Cond.fieldLink RX11 31 "LayoutPressModel" "ways" "[I", Cond.fieldLink RX11 34 "LayoutPressModel" "flatLayouts" "[I", Cond.fieldLink RX11 37 "LayoutPressModel" "layouts" "[I", Cond.fieldLink RX11 40 "LayoutPressModel" "flatWidths" "[I", Cond.fieldLink RX11 43 "LayoutPressModel" "isNoCell" "[Z", Cond.methodLink RX11 202 yX11_capped, Cond.static yX11_capped, Cond.code yX11_capped cX11_capped 2 (some .int), Cond.constantLong RX11 199 (1000000), Cond.constant RX11 201 (1000000), Cond.methodLink RX11 206 yX11_greater, Cond.static yX11_greater, Cond.code yX11_greater cX11_greater 2 (some .int)]
def wsX11_align : List Cond := .code yX11_align cX11_align 2 (some .int) :: ((wsX11_align_r1 ++ wsX11_align_r2) ++ wsX110 ++ (vx_atM "java/lang/ArrayIndexOutOfBoundsException" ["java/lang/IndexOutOfBoundsException", "java/lang/RuntimeException", "java/lang/Exception"]).filter goodWord)
def wsX11_group_r1 : List Cond := [Cond.methodLink RX11 234 yX11_isPart, Cond.instanceMethod yX11_isPart, Cond.selects RX11 yX11_isPart yX11_isPart, Cond.initialized RX11, Cond.code yX11_isPart cX11_isPart 3 (some .boolean), Cond.fieldLink RX11 192 "LayoutPressModel" "thrown" "I", Cond.methodLink RX11 222 yX11_isNode, Cond.instanceMethod yX11_isNode, Cond.selects RX11 yX11_isNode yX11_isNode, Cond.code yX11_isNode cX11_isNode 2 (some .boolean), Cond.fieldLink RX11 188 "LayoutPressModel" "nodeMany" "I", Cond.methodLink RX11 195 yX11_in, Cond.static yX11_in, Cond.code yX11_in cX11_in 3 (some .boolean), Cond.methodLink RX11 230 yX11_made, Cond.instanceMethod yX11_made, Cond.selects RX11 yX11_made yX11_made, Cond.code yX11_made cX11_made 7 (some .int), Cond.methodLink RX11 210 yX11_lays, Cond.instanceMethod yX11_lays, Cond.selects RX11 yX11_lays yX11_lays, Cond.code yX11_lays cX11_lays 7 (some .boolean), Cond.fieldLink RX11 7 "LayoutPressModel" "kinds" "[I", Cond.fieldLink RX11 13 "LayoutPressModel" "ones" "[I"]
def wsX11_group_r2 : List Cond := [Cond.fieldLink RX11 19 "LayoutPressModel" "firsts" "[I", Cond.fieldLink RX11 22 "LayoutPressModel" "seconds" "[I", Cond.fieldLink RX11 25 "LayoutPressModel" "sizes" "[I", Cond.fieldLink RX11 28 "LayoutPressModel" "flatWays" "[I", Cond.fieldLink RX11 31 "LayoutPressModel" "ways" "[I", Cond.fieldLink RX11 34 "LayoutPressModel" "flatLayouts" "[I", Cond.fieldLink RX11 37 "LayoutPressModel" "layouts" "[I", Cond.fieldLink RX11 40 "LayoutPressModel" "flatWidths" "[I", Cond.fieldLink RX11 43 "LayoutPressModel" "isNoCell" "[Z", Cond.methodLink RX11 202 yX11_capped, Cond.static yX11_capped, Cond.code yX11_capped cX11_capped 2 (some .int), Cond.constantLong RX11 199 (1000000), Cond.constant RX11 201 (1000000), Cond.methodLink RX11 206 yX11_greater, Cond.static yX11_greater, Cond.code yX11_greater cX11_greater 2 (some .int)]
def wsX11_group : List Cond := .code yX11_group cX11_group 2 (some .int) :: ((wsX11_group_r1 ++ wsX11_group_r2) ++ wsX110 ++ (vx_atM "java/lang/ArrayIndexOutOfBoundsException" ["java/lang/IndexOutOfBoundsException", "java/lang/RuntimeException", "java/lang/Exception"]).filter goodWord)
def wsX11_choice_r1 : List Cond := [Cond.methodLink RX11 226 yX11_areNodes, Cond.instanceMethod yX11_areNodes, Cond.selects RX11 yX11_areNodes yX11_areNodes, Cond.initialized RX11, Cond.code yX11_areNodes cX11_areNodes 3 (some .boolean), Cond.fieldLink RX11 192 "LayoutPressModel" "thrown" "I", Cond.methodLink RX11 222 yX11_isNode, Cond.instanceMethod yX11_isNode, Cond.selects RX11 yX11_isNode yX11_isNode, Cond.code yX11_isNode cX11_isNode 2 (some .boolean), Cond.fieldLink RX11 188 "LayoutPressModel" "nodeMany" "I", Cond.methodLink RX11 195 yX11_in, Cond.static yX11_in, Cond.code yX11_in cX11_in 3 (some .boolean), Cond.methodLink RX11 230 yX11_made, Cond.instanceMethod yX11_made, Cond.selects RX11 yX11_made yX11_made, Cond.code yX11_made cX11_made 7 (some .int), Cond.methodLink RX11 210 yX11_lays, Cond.instanceMethod yX11_lays, Cond.selects RX11 yX11_lays yX11_lays, Cond.code yX11_lays cX11_lays 7 (some .boolean), Cond.fieldLink RX11 7 "LayoutPressModel" "kinds" "[I", Cond.fieldLink RX11 13 "LayoutPressModel" "ones" "[I"]
def wsX11_choice_r2 : List Cond := [Cond.fieldLink RX11 19 "LayoutPressModel" "firsts" "[I", Cond.fieldLink RX11 22 "LayoutPressModel" "seconds" "[I", Cond.fieldLink RX11 25 "LayoutPressModel" "sizes" "[I", Cond.fieldLink RX11 28 "LayoutPressModel" "flatWays" "[I", Cond.fieldLink RX11 31 "LayoutPressModel" "ways" "[I", Cond.fieldLink RX11 34 "LayoutPressModel" "flatLayouts" "[I", Cond.fieldLink RX11 37 "LayoutPressModel" "layouts" "[I", Cond.fieldLink RX11 40 "LayoutPressModel" "flatWidths" "[I", Cond.fieldLink RX11 43 "LayoutPressModel" "isNoCell" "[Z", Cond.methodLink RX11 202 yX11_capped, Cond.static yX11_capped, Cond.code yX11_capped cX11_capped 2 (some .int), Cond.constantLong RX11 199 (1000000), Cond.constant RX11 201 (1000000), Cond.methodLink RX11 206 yX11_greater, Cond.static yX11_greater, Cond.code yX11_greater cX11_greater 2 (some .int)]
def wsX11_choice : List Cond := .code yX11_choice cX11_choice 3 (some .int) :: ((wsX11_choice_r1 ++ wsX11_choice_r2) ++ wsX110 ++ (vx_atM "java/lang/ArrayIndexOutOfBoundsException" ["java/lang/IndexOutOfBoundsException", "java/lang/RuntimeException", "java/lang/Exception"]).filter goodWord)
def wsX11_flat_r1 : List Cond := [Cond.methodLink RX11 234 yX11_isPart, Cond.instanceMethod yX11_isPart, Cond.selects RX11 yX11_isPart yX11_isPart, Cond.initialized RX11, Cond.code yX11_isPart cX11_isPart 3 (some .boolean), Cond.fieldLink RX11 192 "LayoutPressModel" "thrown" "I", Cond.methodLink RX11 222 yX11_isNode, Cond.instanceMethod yX11_isNode, Cond.selects RX11 yX11_isNode yX11_isNode, Cond.code yX11_isNode cX11_isNode 2 (some .boolean), Cond.fieldLink RX11 188 "LayoutPressModel" "nodeMany" "I", Cond.methodLink RX11 195 yX11_in, Cond.static yX11_in, Cond.code yX11_in cX11_in 3 (some .boolean), Cond.methodLink RX11 230 yX11_made, Cond.instanceMethod yX11_made, Cond.selects RX11 yX11_made yX11_made, Cond.code yX11_made cX11_made 7 (some .int), Cond.methodLink RX11 210 yX11_lays, Cond.instanceMethod yX11_lays, Cond.selects RX11 yX11_lays yX11_lays, Cond.code yX11_lays cX11_lays 7 (some .boolean), Cond.fieldLink RX11 7 "LayoutPressModel" "kinds" "[I", Cond.fieldLink RX11 13 "LayoutPressModel" "ones" "[I"]
def wsX11_flat_r2 : List Cond := [Cond.fieldLink RX11 19 "LayoutPressModel" "firsts" "[I", Cond.fieldLink RX11 22 "LayoutPressModel" "seconds" "[I", Cond.fieldLink RX11 25 "LayoutPressModel" "sizes" "[I", Cond.fieldLink RX11 28 "LayoutPressModel" "flatWays" "[I", Cond.fieldLink RX11 31 "LayoutPressModel" "ways" "[I", Cond.fieldLink RX11 34 "LayoutPressModel" "flatLayouts" "[I", Cond.fieldLink RX11 37 "LayoutPressModel" "layouts" "[I", Cond.fieldLink RX11 40 "LayoutPressModel" "flatWidths" "[I", Cond.fieldLink RX11 43 "LayoutPressModel" "isNoCell" "[Z", Cond.methodLink RX11 202 yX11_capped, Cond.static yX11_capped, Cond.code yX11_capped cX11_capped 2 (some .int), Cond.constantLong RX11 199 (1000000), Cond.constant RX11 201 (1000000), Cond.methodLink RX11 206 yX11_greater, Cond.static yX11_greater, Cond.code yX11_greater cX11_greater 2 (some .int)]
def wsX11_flat : List Cond := .code yX11_flat cX11_flat 2 (some .int) :: ((wsX11_flat_r1 ++ wsX11_flat_r2) ++ wsX110 ++ (vx_atM "java/lang/ArrayIndexOutOfBoundsException" ["java/lang/IndexOutOfBoundsException", "java/lang/RuntimeException", "java/lang/Exception"]).filter goodWord)
def wsX11_broken_r1 : List Cond := [Cond.methodLink RX11 226 yX11_areNodes, Cond.instanceMethod yX11_areNodes, Cond.selects RX11 yX11_areNodes yX11_areNodes, Cond.initialized RX11, Cond.code yX11_areNodes cX11_areNodes 3 (some .boolean), Cond.fieldLink RX11 192 "LayoutPressModel" "thrown" "I", Cond.methodLink RX11 222 yX11_isNode, Cond.instanceMethod yX11_isNode, Cond.selects RX11 yX11_isNode yX11_isNode, Cond.code yX11_isNode cX11_isNode 2 (some .boolean), Cond.fieldLink RX11 188 "LayoutPressModel" "nodeMany" "I", Cond.methodLink RX11 195 yX11_in, Cond.static yX11_in, Cond.code yX11_in cX11_in 3 (some .boolean), Cond.methodLink RX11 230 yX11_made, Cond.instanceMethod yX11_made, Cond.selects RX11 yX11_made yX11_made, Cond.code yX11_made cX11_made 7 (some .int), Cond.methodLink RX11 210 yX11_lays, Cond.instanceMethod yX11_lays, Cond.selects RX11 yX11_lays yX11_lays, Cond.code yX11_lays cX11_lays 7 (some .boolean), Cond.fieldLink RX11 7 "LayoutPressModel" "kinds" "[I", Cond.fieldLink RX11 13 "LayoutPressModel" "ones" "[I"]
def wsX11_broken_r2 : List Cond := [Cond.fieldLink RX11 19 "LayoutPressModel" "firsts" "[I", Cond.fieldLink RX11 22 "LayoutPressModel" "seconds" "[I", Cond.fieldLink RX11 25 "LayoutPressModel" "sizes" "[I", Cond.fieldLink RX11 28 "LayoutPressModel" "flatWays" "[I", Cond.fieldLink RX11 31 "LayoutPressModel" "ways" "[I", Cond.fieldLink RX11 34 "LayoutPressModel" "flatLayouts" "[I", Cond.fieldLink RX11 37 "LayoutPressModel" "layouts" "[I", Cond.fieldLink RX11 40 "LayoutPressModel" "flatWidths" "[I", Cond.fieldLink RX11 43 "LayoutPressModel" "isNoCell" "[Z", Cond.methodLink RX11 202 yX11_capped, Cond.static yX11_capped, Cond.code yX11_capped cX11_capped 2 (some .int), Cond.constantLong RX11 199 (1000000), Cond.constant RX11 201 (1000000), Cond.methodLink RX11 206 yX11_greater, Cond.static yX11_greater, Cond.code yX11_greater cX11_greater 2 (some .int)]
def wsX11_broken : List Cond := .code yX11_broken cX11_broken 3 (some .int) :: ((wsX11_broken_r1 ++ wsX11_broken_r2) ++ wsX110 ++ (vx_atM "java/lang/ArrayIndexOutOfBoundsException" ["java/lang/IndexOutOfBoundsException", "java/lang/RuntimeException", "java/lang/Exception"]).filter goodWord)
def wsX11_price_r1 : List Cond := [Cond.methodLink RX11 195 yX11_in, Cond.static yX11_in, Cond.initialized RX11, Cond.code yX11_in cX11_in 3 (some .boolean), Cond.methodLink RX11 234 yX11_isPart, Cond.instanceMethod yX11_isPart, Cond.selects RX11 yX11_isPart yX11_isPart, Cond.code yX11_isPart cX11_isPart 3 (some .boolean), Cond.fieldLink RX11 192 "LayoutPressModel" "thrown" "I", Cond.methodLink RX11 222 yX11_isNode, Cond.instanceMethod yX11_isNode, Cond.selects RX11 yX11_isNode yX11_isNode, Cond.code yX11_isNode cX11_isNode 2 (some .boolean), Cond.fieldLink RX11 188 "LayoutPressModel" "nodeMany" "I", Cond.methodLink RX11 230 yX11_made, Cond.instanceMethod yX11_made, Cond.selects RX11 yX11_made yX11_made, Cond.code yX11_made cX11_made 7 (some .int), Cond.methodLink RX11 210 yX11_lays, Cond.instanceMethod yX11_lays, Cond.selects RX11 yX11_lays yX11_lays, Cond.code yX11_lays cX11_lays 7 (some .boolean), Cond.fieldLink RX11 7 "LayoutPressModel" "kinds" "[I", Cond.fieldLink RX11 13 "LayoutPressModel" "ones" "[I"]
def wsX11_price_r2 : List Cond := [Cond.fieldLink RX11 19 "LayoutPressModel" "firsts" "[I", Cond.fieldLink RX11 22 "LayoutPressModel" "seconds" "[I", Cond.fieldLink RX11 25 "LayoutPressModel" "sizes" "[I", Cond.fieldLink RX11 28 "LayoutPressModel" "flatWays" "[I", Cond.fieldLink RX11 31 "LayoutPressModel" "ways" "[I", Cond.fieldLink RX11 34 "LayoutPressModel" "flatLayouts" "[I", Cond.fieldLink RX11 37 "LayoutPressModel" "layouts" "[I", Cond.fieldLink RX11 40 "LayoutPressModel" "flatWidths" "[I", Cond.fieldLink RX11 43 "LayoutPressModel" "isNoCell" "[Z", Cond.methodLink RX11 202 yX11_capped, Cond.static yX11_capped, Cond.code yX11_capped cX11_capped 2 (some .int), Cond.constantLong RX11 199 (1000000), Cond.constant RX11 201 (1000000), Cond.methodLink RX11 206 yX11_greater, Cond.static yX11_greater, Cond.code yX11_greater cX11_greater 2 (some .int)]
def wsX11_price : List Cond := .code yX11_price cX11_price 3 (some .int) :: ((wsX11_price_r1 ++ wsX11_price_r2) ++ wsX110 ++ (vx_atM "java/lang/ArrayIndexOutOfBoundsException" ["java/lang/IndexOutOfBoundsException", "java/lang/RuntimeException", "java/lang/Exception"]).filter goodWord)
def wsX11_keep_r1 : List Cond := [Cond.methodLink RX11 195 yX11_in, Cond.static yX11_in, Cond.initialized RX11, Cond.code yX11_in cX11_in 3 (some .boolean), Cond.methodLink RX11 234 yX11_isPart, Cond.instanceMethod yX11_isPart, Cond.selects RX11 yX11_isPart yX11_isPart, Cond.code yX11_isPart cX11_isPart 3 (some .boolean), Cond.fieldLink RX11 192 "LayoutPressModel" "thrown" "I", Cond.methodLink RX11 222 yX11_isNode, Cond.instanceMethod yX11_isNode, Cond.selects RX11 yX11_isNode yX11_isNode, Cond.code yX11_isNode cX11_isNode 2 (some .boolean), Cond.fieldLink RX11 188 "LayoutPressModel" "nodeMany" "I", Cond.methodLink RX11 230 yX11_made, Cond.instanceMethod yX11_made, Cond.selects RX11 yX11_made yX11_made, Cond.code yX11_made cX11_made 7 (some .int), Cond.methodLink RX11 210 yX11_lays, Cond.instanceMethod yX11_lays, Cond.selects RX11 yX11_lays yX11_lays, Cond.code yX11_lays cX11_lays 7 (some .boolean), Cond.fieldLink RX11 7 "LayoutPressModel" "kinds" "[I", Cond.fieldLink RX11 13 "LayoutPressModel" "ones" "[I"]
def wsX11_keep_r2 : List Cond := [Cond.fieldLink RX11 19 "LayoutPressModel" "firsts" "[I", Cond.fieldLink RX11 22 "LayoutPressModel" "seconds" "[I", Cond.fieldLink RX11 25 "LayoutPressModel" "sizes" "[I", Cond.fieldLink RX11 28 "LayoutPressModel" "flatWays" "[I", Cond.fieldLink RX11 31 "LayoutPressModel" "ways" "[I", Cond.fieldLink RX11 34 "LayoutPressModel" "flatLayouts" "[I", Cond.fieldLink RX11 37 "LayoutPressModel" "layouts" "[I", Cond.fieldLink RX11 40 "LayoutPressModel" "flatWidths" "[I", Cond.fieldLink RX11 43 "LayoutPressModel" "isNoCell" "[Z", Cond.methodLink RX11 202 yX11_capped, Cond.static yX11_capped, Cond.code yX11_capped cX11_capped 2 (some .int), Cond.constantLong RX11 199 (1000000), Cond.constant RX11 201 (1000000), Cond.methodLink RX11 206 yX11_greater, Cond.static yX11_greater, Cond.code yX11_greater cX11_greater 2 (some .int)]
def wsX11_keep : List Cond := .code yX11_keep cX11_keep 3 (some .int) :: ((wsX11_keep_r1 ++ wsX11_keep_r2) ++ wsX110 ++ (vx_atM "java/lang/ArrayIndexOutOfBoundsException" ["java/lang/IndexOutOfBoundsException", "java/lang/RuntimeException", "java/lang/Exception"]).filter goodWord)
def wsX11_cell_r1 : List Cond := [Cond.fieldLink RX11 43 "LayoutPressModel" "isNoCell" "[Z", Cond.fieldLink RX11 192 "LayoutPressModel" "thrown" "I", Cond.methodLink RX11 195 yX11_in, Cond.static yX11_in, Cond.initialized RX11, Cond.code yX11_in cX11_in 3 (some .boolean), Cond.methodLink RX11 234 yX11_isPart, Cond.instanceMethod yX11_isPart, Cond.selects RX11 yX11_isPart yX11_isPart, Cond.code yX11_isPart cX11_isPart 3 (some .boolean), Cond.methodLink RX11 222 yX11_isNode, Cond.instanceMethod yX11_isNode, Cond.selects RX11 yX11_isNode yX11_isNode, Cond.code yX11_isNode cX11_isNode 2 (some .boolean), Cond.fieldLink RX11 188 "LayoutPressModel" "nodeMany" "I", Cond.methodLink RX11 230 yX11_made, Cond.instanceMethod yX11_made, Cond.selects RX11 yX11_made yX11_made, Cond.code yX11_made cX11_made 7 (some .int), Cond.methodLink RX11 210 yX11_lays, Cond.instanceMethod yX11_lays, Cond.selects RX11 yX11_lays yX11_lays, Cond.code yX11_lays cX11_lays 7 (some .boolean), Cond.fieldLink RX11 7 "LayoutPressModel" "kinds" "[I"]
def wsX11_cell_r2 : List Cond := [Cond.fieldLink RX11 13 "LayoutPressModel" "ones" "[I", Cond.fieldLink RX11 19 "LayoutPressModel" "firsts" "[I", Cond.fieldLink RX11 22 "LayoutPressModel" "seconds" "[I", Cond.fieldLink RX11 25 "LayoutPressModel" "sizes" "[I", Cond.fieldLink RX11 28 "LayoutPressModel" "flatWays" "[I", Cond.fieldLink RX11 31 "LayoutPressModel" "ways" "[I", Cond.fieldLink RX11 34 "LayoutPressModel" "flatLayouts" "[I", Cond.fieldLink RX11 37 "LayoutPressModel" "layouts" "[I", Cond.fieldLink RX11 40 "LayoutPressModel" "flatWidths" "[I", Cond.methodLink RX11 202 yX11_capped, Cond.static yX11_capped, Cond.code yX11_capped cX11_capped 2 (some .int), Cond.constantLong RX11 199 (1000000), Cond.constant RX11 201 (1000000), Cond.methodLink RX11 206 yX11_greater, Cond.static yX11_greater, Cond.code yX11_greater cX11_greater 2 (some .int)]
def wsX11_cell : List Cond := .code yX11_cell cX11_cell 4 (some .int) :: ((wsX11_cell_r1 ++ wsX11_cell_r2) ++ wsX110 ++ (vx_atM "java/lang/ArrayIndexOutOfBoundsException" ["java/lang/IndexOutOfBoundsException", "java/lang/RuntimeException", "java/lang/Exception"]).filter goodWord)
def wsX11_nodes : List Cond := .code yX11_nodes cX11_nodes 1 (some .int) :: ([.fieldLink RX11 192 "LayoutPressModel" "thrown" "I", .fieldLink RX11 188 "LayoutPressModel" "nodeMany" "I"] ++ wsX110)
def wsX11_size : List Cond := .code yX11_size cX11_size 2 (some .int) :: ([.fieldLink RX11 192 "LayoutPressModel" "thrown" "I", .fieldLink RX11 25 "LayoutPressModel" "sizes" "[I", .methodLink RX11 222 yX11_isNode, .instanceMethod yX11_isNode, .selects RX11 yX11_isNode yX11_isNode, .initialized RX11, .code yX11_isNode cX11_isNode 2 (some .boolean), .fieldLink RX11 188 "LayoutPressModel" "nodeMany" "I", .methodLink RX11 195 yX11_in, .static yX11_in, .code yX11_in cX11_in 3 (some .boolean)] ++ wsX110 ++ (vx_atM "java/lang/ArrayIndexOutOfBoundsException" ["java/lang/IndexOutOfBoundsException", "java/lang/RuntimeException", "java/lang/Exception"]).filter goodWord)
def wsX11_layouts : List Cond := .code yX11_layouts cX11_layouts 2 (some .int) :: ([.fieldLink RX11 192 "LayoutPressModel" "thrown" "I", .fieldLink RX11 37 "LayoutPressModel" "layouts" "[I", .methodLink RX11 222 yX11_isNode, .instanceMethod yX11_isNode, .selects RX11 yX11_isNode yX11_isNode, .initialized RX11, .code yX11_isNode cX11_isNode 2 (some .boolean), .fieldLink RX11 188 "LayoutPressModel" "nodeMany" "I", .methodLink RX11 195 yX11_in, .static yX11_in, .code yX11_in cX11_in 3 (some .boolean)] ++ wsX110 ++ (vx_atM "java/lang/ArrayIndexOutOfBoundsException" ["java/lang/IndexOutOfBoundsException", "java/lang/RuntimeException", "java/lang/Exception"]).filter goodWord)
def wsX11_asksToPrint : List Cond := .code yX11_asksToPrint cX11_asksToPrint 5 (some .boolean) :: ([.fieldLink RX11 192 "LayoutPressModel" "thrown" "I", .fieldLink RX11 261 "LayoutPressModel" "width" "I", .fieldLink RX11 264 "LayoutPressModel" "ribbon" "I", .fieldLink RX11 280 "LayoutPressModel" "endPrice" "I", .methodLink RX11 222 yX11_isNode, .instanceMethod yX11_isNode, .selects RX11 yX11_isNode yX11_isNode, .initialized RX11, .code yX11_isNode cX11_isNode 2 (some .boolean), .fieldLink RX11 188 "LayoutPressModel" "nodeMany" "I", .methodLink RX11 195 yX11_in, .static yX11_in, .code yX11_in cX11_in 3 (some .boolean)] ++ wsX110)
def wsX11_print_r1 : List Cond := [Cond.methodLink RX11 413 yX11_asksToPrint, Cond.instanceMethod yX11_asksToPrint, Cond.selects RX11 yX11_asksToPrint yX11_asksToPrint, Cond.initialized RX11, Cond.code yX11_asksToPrint cX11_asksToPrint 5 (some .boolean), Cond.fieldLink RX11 192 "LayoutPressModel" "thrown" "I", Cond.fieldLink RX11 261 "LayoutPressModel" "width" "I", Cond.fieldLink RX11 264 "LayoutPressModel" "ribbon" "I", Cond.fieldLink RX11 280 "LayoutPressModel" "endPrice" "I", Cond.methodLink RX11 222 yX11_isNode, Cond.instanceMethod yX11_isNode, Cond.selects RX11 yX11_isNode yX11_isNode, Cond.code yX11_isNode cX11_isNode 2 (some .boolean), Cond.fieldLink RX11 188 "LayoutPressModel" "nodeMany" "I", Cond.methodLink RX11 195 yX11_in, Cond.static yX11_in, Cond.code yX11_in cX11_in 3 (some .boolean), Cond.methodLink RX11 416 yX11_printBest, Cond.instanceMethod yX11_printBest, Cond.selects RX11 yX11_printBest yX11_printBest, Cond.code yX11_printBest cX11_printBest 4 (some .int), Cond.fieldLink RX11 114 "LayoutPressModel" "told" "[I", Cond.fieldLink RX11 332 "LayoutPressModel" "givenMany" "I", Cond.fieldLink RX11 140 "LayoutPressModel" "given" "[I"]
def wsX11_print_r2 : List Cond := [Cond.fieldLink RX11 111 "LayoutPressModel" "bits" "[I", Cond.methodLink RX11 407 yX11_bestOf, Cond.instanceMethod yX11_bestOf, Cond.selects RX11 yX11_bestOf yX11_bestOf, Cond.code yX11_bestOf cX11_bestOf 6 (some .int), Cond.fieldLink RX11 241 "LayoutPressModel" "stepMany" "I", Cond.fieldLink RX11 271 "LayoutPressModel" "stateMany" "I", Cond.fieldLink RX11 117 "LayoutPressModel" "isGone" "[Z", Cond.fieldLink RX11 7 "LayoutPressModel" "kinds" "[I", Cond.fieldLink RX11 50 "LayoutPressModel" "stepNodes" "[I", Cond.fieldLink RX11 47 "LayoutPressModel" "stepKinds" "[I", Cond.fieldLink RX11 105 "LayoutPressModel" "costs" "[I", Cond.fieldLink RX11 84 "LayoutPressModel" "starts" "[I", Cond.fieldLink RX11 87 "LayoutPressModel" "ends" "[I", Cond.methodLink RX11 317 yX11_laySteps, Cond.instanceMethod yX11_laySteps, Cond.selects RX11 yX11_laySteps yX11_laySteps, Cond.code yX11_laySteps cX11_laySteps 5 none, Cond.fieldLink RX11 238 "LayoutPressModel" "workMany" "I", Cond.fieldLink RX11 77 "LayoutPressModel" "cellWidths" "[I", Cond.fieldLink RX11 74 "LayoutPressModel" "work" "[I", Cond.fieldLink RX11 56 "LayoutPressModel" "mids" "[I", Cond.fieldLink RX11 59 "LayoutPressModel" "leaves" "[I", Cond.methodLink RX11 247 yX11_later]
def wsX11_print_r3 : List Cond := [Cond.instanceMethod yX11_later, Cond.selects RX11 yX11_later yX11_later, Cond.code yX11_later cX11_later 3 none, Cond.methodLink RX11 251 yX11_layNode, Cond.instanceMethod yX11_layNode, Cond.selects RX11 yX11_layNode yX11_layNode, Cond.code yX11_layNode cX11_layNode 4 none, Cond.fieldLink RX11 22 "LayoutPressModel" "seconds" "[I", Cond.fieldLink RX11 19 "LayoutPressModel" "firsts" "[I", Cond.fieldLink RX11 13 "LayoutPressModel" "ones" "[I", Cond.fieldLink RX11 40 "LayoutPressModel" "flatWidths" "[I", Cond.methodLink RX11 244 yX11_step, Cond.instanceMethod yX11_step, Cond.selects RX11 yX11_step yX11_step, Cond.code yX11_step cX11_step 4 (some .int), Cond.fieldLink RX11 53 "LayoutPressModel" "enters" "[I", Cond.methodLink RX11 206 yX11_greater, Cond.static yX11_greater, Cond.code yX11_greater cX11_greater 2 (some .int), Cond.methodLink RX11 255 yX11_layRegions, Cond.instanceMethod yX11_layRegions, Cond.selects RX11 yX11_layRegions yX11_layRegions, Cond.code yX11_layRegions cX11_layRegions 4 none, Cond.fieldLink RX11 71 "LayoutPressModel" "lastEnds" "[I"]
def wsX11_print_r4 : List Cond := [Cond.fieldLink RX11 68 "LayoutPressModel" "regions" "[I", Cond.fieldLink RX11 62 "LayoutPressModel" "isForWithin" "[Z", Cond.fieldLink RX11 65 "LayoutPressModel" "isForBehind" "[Z", Cond.methodLink RX11 258 yX11_endsLine, Cond.static yX11_endsLine, Cond.code yX11_endsLine cX11_endsLine 1 (some .boolean), Cond.methodLink RX11 320 yX11_beginAll, Cond.instanceMethod yX11_beginAll, Cond.selects RX11 yX11_beginAll yX11_beginAll, Cond.code yX11_beginAll cX11_beginAll 2 none, Cond.fieldLink RX11 268 "LayoutPressModel" "aheadMany" "I", Cond.fieldLink RX11 137 "LayoutPressModel" "aheadHeads" "[I", Cond.fieldLink RX11 81 "LayoutPressModel" "columns" "[I", Cond.fieldLink RX11 90 "LayoutPressModel" "isRemarked" "[Z", Cond.fieldLink RX11 93 "LayoutPressModel" "flats" "[I", Cond.fieldLink RX11 96 "LayoutPressModel" "indents" "[I", Cond.fieldLink RX11 99 "LayoutPressModel" "aheads" "[I", Cond.fieldLink RX11 102 "LayoutPressModel" "passes" "[I", Cond.fieldLink RX11 108 "LayoutPressModel" "lineEnds" "[I", Cond.methodLink RX11 323 yX11_takeStep, Cond.instanceMethod yX11_takeStep, Cond.selects RX11 yX11_takeStep yX11_takeStep, Cond.code yX11_takeStep cX11_takeStep 4 none, Cond.methodLink RX11 298 yX11_enterStep]
def wsX11_print_r5 : List Cond := [Cond.instanceMethod yX11_enterStep, Cond.selects RX11 yX11_enterStep yX11_enterStep, Cond.code yX11_enterStep cX11_enterStep 7 none, Cond.methodLink RX11 289 yX11_leafStep, Cond.instanceMethod yX11_leafStep, Cond.selects RX11 yX11_leafStep yX11_leafStep, Cond.code yX11_leafStep cX11_leafStep 5 none, Cond.fieldLink RX11 16 "LayoutPressModel" "counts" "[I", Cond.methodLink RX11 283 yX11_signs, Cond.instanceMethod yX11_signs, Cond.selects RX11 yX11_signs yX11_signs, Cond.code yX11_signs cX11_signs 3 none, Cond.methodLink RX11 286 yX11_endLine, Cond.instanceMethod yX11_endLine, Cond.selects RX11 yX11_endLine yX11_endLine, Cond.code yX11_endLine cX11_endLine 2 none, Cond.methodLink RX11 277 yX11_lineCost, Cond.instanceMethod yX11_lineCost, Cond.selects RX11 yX11_lineCost yX11_lineCost, Cond.code yX11_lineCost cX11_lineCost 5 (some .int), Cond.methodLink RX11 292 yX11_aheadNumber, Cond.instanceMethod yX11_aheadNumber, Cond.selects RX11 yX11_aheadNumber yX11_aheadNumber, Cond.code yX11_aheadNumber cX11_aheadNumber 5 (some .int)]
def wsX11_print_r6 : List Cond := [Cond.constant RX11 267 (2147483647), Cond.fieldLink RX11 128 "LayoutPressModel" "aheadOf" "[I", Cond.fieldLink RX11 131 "LayoutPressModel" "indentOf" "[I", Cond.fieldLink RX11 134 "LayoutPressModel" "nextAhead" "[I", Cond.methodLink RX11 295 yX11_fork, Cond.instanceMethod yX11_fork, Cond.selects RX11 yX11_fork yX11_fork, Cond.code yX11_fork cX11_fork 2 (some .int), Cond.methodLink RX11 274 yX11_copyState, Cond.instanceMethod yX11_copyState, Cond.selects RX11 yX11_copyState yX11_copyState, Cond.code yX11_copyState cX11_copyState 3 none, Cond.methodLink RX11 301 yX11_leaveStep, Cond.instanceMethod yX11_leaveStep, Cond.selects RX11 yX11_leaveStep yX11_leaveStep, Cond.code yX11_leaveStep cX11_leaveStep 5 none, Cond.methodLink RX11 326 yX11_unite, Cond.instanceMethod yX11_unite, Cond.selects RX11 yX11_unite yX11_unite, Cond.code yX11_unite cX11_unite 4 none, Cond.fieldLink RX11 305 "LayoutPressModel" "round" "I", Cond.fieldLink RX11 124 "LayoutPressModel" "slotRounds" "[I", Cond.fieldLink RX11 121 "LayoutPressModel" "slots" "[I", Cond.methodLink RX11 311 yX11_slotOf]
def wsX11_print_r7 : List Cond := [Cond.instanceMethod yX11_slotOf, Cond.selects RX11 yX11_slotOf yX11_slotOf, Cond.code yX11_slotOf cX11_slotOf 4 (some .int), Cond.constant RX11 304 (262143), Cond.methodLink RX11 308 yX11_areAlike, Cond.instanceMethod yX11_areAlike, Cond.selects RX11 yX11_areAlike yX11_areAlike, Cond.code yX11_areAlike cX11_areAlike 4 (some .boolean), Cond.methodLink RX11 314 yX11_isBetter, Cond.instanceMethod yX11_isBetter, Cond.selects RX11 yX11_isBetter yX11_isBetter, Cond.code yX11_isBetter cX11_isBetter 3 (some .boolean), Cond.methodLink RX11 410 yX11_record, Cond.instanceMethod yX11_record, Cond.selects RX11 yX11_record yX11_record, Cond.code yX11_record cX11_record 2 (some .int), Cond.fieldLink RX11 365 "LayoutPressModel" "rowMany" "I", Cond.fieldLink RX11 385 "LayoutPressModel" "keepMany" "I", Cond.fieldLink RX11 155 "LayoutPressModel" "places" "[I", Cond.fieldLink RX11 350 "LayoutPressModel" "lineNow" "I", Cond.fieldLink RX11 398 "LayoutPressModel" "printedLines" "I", Cond.fieldLink RX11 329 "LayoutPressModel" "toldMany" "I", Cond.fieldLink RX11 401 "LayoutPressModel" "printedWays" "I", Cond.fieldLink RX11 158 "LayoutPressModel" "printed" "[I"]
def wsX11_print_r8 : List Cond := [Cond.fieldLink RX11 404 "LayoutPressModel" "isBroken" "Z", Cond.fieldLink RX11 347 "LayoutPressModel" "cost" "I", Cond.methodLink RX11 395 yX11_play, Cond.instanceMethod yX11_play, Cond.selects RX11 yX11_play yX11_play, Cond.code yX11_play cX11_play 5 none, Cond.fieldLink RX11 356 "LayoutPressModel" "column" "I", Cond.fieldLink RX11 341 "LayoutPressModel" "start" "I", Cond.fieldLink RX11 339 "LayoutPressModel" "end" "I", Cond.fieldLink RX11 359 "LayoutPressModel" "hasRemark" "Z", Cond.fieldLink RX11 362 "LayoutPressModel" "flatBy" "I", Cond.fieldLink RX11 353 "LayoutPressModel" "indent" "I", Cond.fieldLink RX11 375 "LayoutPressModel" "openMany" "I", Cond.fieldLink RX11 382 "LayoutPressModel" "pass" "I", Cond.fieldLink RX11 335 "LayoutPressModel" "isImpossible" "Z", Cond.fieldLink RX11 344 "LayoutPressModel" "isOver" "Z", Cond.methodLink RX11 388 yX11_playEnter, Cond.instanceMethod yX11_playEnter, Cond.selects RX11 yX11_playEnter yX11_playEnter, Cond.code yX11_playEnter cX11_playEnter 6 none, Cond.fieldLink RX11 170 "LayoutPressModel" "enterLines" "[I", Cond.fieldLink RX11 143 "LayoutPressModel" "openIndents" "[I", Cond.methodLink RX11 371 yX11_playLeaf, Cond.instanceMethod yX11_playLeaf]
def wsX11_print_r9 : List Cond := [Cond.selects RX11 yX11_playLeaf yX11_playLeaf, Cond.code yX11_playLeaf cX11_playLeaf 6 none, Cond.fieldLink RX11 146 "LayoutPressModel" "rowLines" "[I", Cond.fieldLink RX11 149 "LayoutPressModel" "rowColumns" "[I", Cond.fieldLink RX11 152 "LayoutPressModel" "rowNodes" "[I", Cond.methodLink RX11 368 yX11_playEnd, Cond.instanceMethod yX11_playEnd, Cond.selects RX11 yX11_playEnd yX11_playEnd, Cond.code yX11_playEnd cX11_playEnd 2 none, Cond.methodLink RX11 378 yX11_wayNow, Cond.instanceMethod yX11_wayNow, Cond.selects RX11 yX11_wayNow yX11_wayNow, Cond.code yX11_wayNow cX11_wayNow 2 (some .int), Cond.methodLink RX11 391 yX11_playLeave, Cond.instanceMethod yX11_playLeave, Cond.selects RX11 yX11_playLeave yX11_playLeave, Cond.code yX11_playLeave cX11_playLeave 5 none, Cond.fieldLink RX11 161 "LayoutPressModel" "keepFroms" "[I", Cond.fieldLink RX11 164 "LayoutPressModel" "keepTos" "[I", Cond.fieldLink RX11 167 "LayoutPressModel" "keepCosts" "[I"]
def wsX11_print : List Cond := .code yX11_print cX11_print 5 (some .int) :: ((wsX11_print_r1 ++ (wsX11_print_r2 ++ (wsX11_print_r3 ++ (wsX11_print_r4 ++ (wsX11_print_r5 ++ (wsX11_print_r6 ++ (wsX11_print_r7 ++ (wsX11_print_r8 ++ wsX11_print_r9)))))))) ++ wsX110 ++ (vx_atM "java/lang/ArrayIndexOutOfBoundsException" ["java/lang/IndexOutOfBoundsException", "java/lang/RuntimeException", "java/lang/Exception"]).filter goodWord)
def wsX11_printByAll_r1 : List Cond := [Cond.fieldLink RX11 37 "LayoutPressModel" "layouts" "[I", Cond.fieldLink RX11 192 "LayoutPressModel" "thrown" "I", Cond.fieldLink RX11 332 "LayoutPressModel" "givenMany" "I", Cond.fieldLink RX11 335 "LayoutPressModel" "isImpossible" "Z", Cond.fieldLink RX11 329 "LayoutPressModel" "toldMany" "I", Cond.fieldLink RX11 347 "LayoutPressModel" "cost" "I", Cond.fieldLink RX11 350 "LayoutPressModel" "lineNow" "I", Cond.fieldLink RX11 176 "LayoutPressModel" "bestWays" "[I", Cond.fieldLink RX11 140 "LayoutPressModel" "given" "[I", Cond.methodLink RX11 413 yX11_asksToPrint, Cond.instanceMethod yX11_asksToPrint, Cond.selects RX11 yX11_asksToPrint yX11_asksToPrint, Cond.initialized RX11, Cond.code yX11_asksToPrint cX11_asksToPrint 5 (some .boolean), Cond.fieldLink RX11 261 "LayoutPressModel" "width" "I", Cond.fieldLink RX11 264 "LayoutPressModel" "ribbon" "I", Cond.fieldLink RX11 280 "LayoutPressModel" "endPrice" "I", Cond.methodLink RX11 222 yX11_isNode, Cond.instanceMethod yX11_isNode, Cond.selects RX11 yX11_isNode yX11_isNode, Cond.code yX11_isNode cX11_isNode 2 (some .boolean), Cond.fieldLink RX11 188 "LayoutPressModel" "nodeMany" "I", Cond.methodLink RX11 195 yX11_in, Cond.static yX11_in]
def wsX11_printByAll_r2 : List Cond := [Cond.code yX11_in cX11_in 3 (some .boolean), Cond.methodLink RX11 317 yX11_laySteps, Cond.instanceMethod yX11_laySteps, Cond.selects RX11 yX11_laySteps yX11_laySteps, Cond.code yX11_laySteps cX11_laySteps 5 none, Cond.fieldLink RX11 241 "LayoutPressModel" "stepMany" "I", Cond.fieldLink RX11 238 "LayoutPressModel" "workMany" "I", Cond.fieldLink RX11 77 "LayoutPressModel" "cellWidths" "[I", Cond.fieldLink RX11 74 "LayoutPressModel" "work" "[I", Cond.fieldLink RX11 50 "LayoutPressModel" "stepNodes" "[I", Cond.fieldLink RX11 56 "LayoutPressModel" "mids" "[I", Cond.fieldLink RX11 59 "LayoutPressModel" "leaves" "[I", Cond.methodLink RX11 247 yX11_later, Cond.instanceMethod yX11_later, Cond.selects RX11 yX11_later yX11_later, Cond.code yX11_later cX11_later 3 none, Cond.methodLink RX11 251 yX11_layNode, Cond.instanceMethod yX11_layNode, Cond.selects RX11 yX11_layNode yX11_layNode, Cond.code yX11_layNode cX11_layNode 4 none, Cond.fieldLink RX11 7 "LayoutPressModel" "kinds" "[I", Cond.fieldLink RX11 22 "LayoutPressModel" "seconds" "[I", Cond.fieldLink RX11 19 "LayoutPressModel" "firsts" "[I", Cond.fieldLink RX11 13 "LayoutPressModel" "ones" "[I"]
def wsX11_printByAll_r3 : List Cond := [Cond.fieldLink RX11 40 "LayoutPressModel" "flatWidths" "[I", Cond.methodLink RX11 244 yX11_step, Cond.instanceMethod yX11_step, Cond.selects RX11 yX11_step yX11_step, Cond.code yX11_step cX11_step 4 (some .int), Cond.fieldLink RX11 47 "LayoutPressModel" "stepKinds" "[I", Cond.fieldLink RX11 53 "LayoutPressModel" "enters" "[I", Cond.methodLink RX11 206 yX11_greater, Cond.static yX11_greater, Cond.code yX11_greater cX11_greater 2 (some .int), Cond.methodLink RX11 255 yX11_layRegions, Cond.instanceMethod yX11_layRegions, Cond.selects RX11 yX11_layRegions yX11_layRegions, Cond.code yX11_layRegions cX11_layRegions 4 none, Cond.fieldLink RX11 71 "LayoutPressModel" "lastEnds" "[I", Cond.fieldLink RX11 68 "LayoutPressModel" "regions" "[I", Cond.fieldLink RX11 62 "LayoutPressModel" "isForWithin" "[Z", Cond.fieldLink RX11 65 "LayoutPressModel" "isForBehind" "[Z", Cond.methodLink RX11 258 yX11_endsLine, Cond.static yX11_endsLine, Cond.code yX11_endsLine cX11_endsLine 1 (some .boolean), Cond.methodLink RX11 419 yX11_playFirst, Cond.instanceMethod yX11_playFirst, Cond.selects RX11 yX11_playFirst yX11_playFirst]
def wsX11_printByAll_r4 : List Cond := [Cond.code yX11_playFirst cX11_playFirst 2 none, Cond.methodLink RX11 395 yX11_play, Cond.instanceMethod yX11_play, Cond.selects RX11 yX11_play yX11_play, Cond.code yX11_play cX11_play 5 none, Cond.fieldLink RX11 356 "LayoutPressModel" "column" "I", Cond.fieldLink RX11 341 "LayoutPressModel" "start" "I", Cond.fieldLink RX11 339 "LayoutPressModel" "end" "I", Cond.fieldLink RX11 359 "LayoutPressModel" "hasRemark" "Z", Cond.fieldLink RX11 362 "LayoutPressModel" "flatBy" "I", Cond.fieldLink RX11 353 "LayoutPressModel" "indent" "I", Cond.fieldLink RX11 375 "LayoutPressModel" "openMany" "I", Cond.fieldLink RX11 382 "LayoutPressModel" "pass" "I", Cond.fieldLink RX11 344 "LayoutPressModel" "isOver" "Z", Cond.methodLink RX11 388 yX11_playEnter, Cond.instanceMethod yX11_playEnter, Cond.selects RX11 yX11_playEnter yX11_playEnter, Cond.code yX11_playEnter cX11_playEnter 6 none, Cond.fieldLink RX11 170 "LayoutPressModel" "enterLines" "[I", Cond.fieldLink RX11 155 "LayoutPressModel" "places" "[I", Cond.fieldLink RX11 143 "LayoutPressModel" "openIndents" "[I", Cond.methodLink RX11 371 yX11_playLeaf, Cond.instanceMethod yX11_playLeaf, Cond.selects RX11 yX11_playLeaf yX11_playLeaf]
def wsX11_printByAll_r5 : List Cond := [Cond.code yX11_playLeaf cX11_playLeaf 6 none, Cond.fieldLink RX11 146 "LayoutPressModel" "rowLines" "[I", Cond.fieldLink RX11 365 "LayoutPressModel" "rowMany" "I", Cond.fieldLink RX11 149 "LayoutPressModel" "rowColumns" "[I", Cond.fieldLink RX11 152 "LayoutPressModel" "rowNodes" "[I", Cond.fieldLink RX11 16 "LayoutPressModel" "counts" "[I", Cond.methodLink RX11 368 yX11_playEnd, Cond.instanceMethod yX11_playEnd, Cond.selects RX11 yX11_playEnd yX11_playEnd, Cond.code yX11_playEnd cX11_playEnd 2 none, Cond.methodLink RX11 277 yX11_lineCost, Cond.instanceMethod yX11_lineCost, Cond.selects RX11 yX11_lineCost yX11_lineCost, Cond.code yX11_lineCost cX11_lineCost 5 (some .int), Cond.methodLink RX11 378 yX11_wayNow, Cond.instanceMethod yX11_wayNow, Cond.selects RX11 yX11_wayNow yX11_wayNow, Cond.code yX11_wayNow cX11_wayNow 2 (some .int), Cond.methodLink RX11 391 yX11_playLeave, Cond.instanceMethod yX11_playLeave, Cond.selects RX11 yX11_playLeave yX11_playLeave, Cond.code yX11_playLeave cX11_playLeave 5 none, Cond.fieldLink RX11 161 "LayoutPressModel" "keepFroms" "[I", Cond.fieldLink RX11 385 "LayoutPressModel" "keepMany" "I"]
def wsX11_printByAll_r6 : List Cond := [Cond.fieldLink RX11 164 "LayoutPressModel" "keepTos" "[I", Cond.fieldLink RX11 167 "LayoutPressModel" "keepCosts" "[I", Cond.methodLink RX11 422 yX11_goesAhead, Cond.instanceMethod yX11_goesAhead, Cond.selects RX11 yX11_goesAhead yX11_goesAhead, Cond.code yX11_goesAhead cX11_goesAhead 5 (some .boolean), Cond.methodLink RX11 425 yX11_goesOn, Cond.instanceMethod yX11_goesOn, Cond.selects RX11 yX11_goesOn yX11_goesOn, Cond.code yX11_goesOn cX11_goesOn 2 (some .boolean), Cond.methodLink RX11 410 yX11_record, Cond.instanceMethod yX11_record, Cond.selects RX11 yX11_record yX11_record, Cond.code yX11_record cX11_record 2 (some .int), Cond.fieldLink RX11 398 "LayoutPressModel" "printedLines" "I", Cond.fieldLink RX11 401 "LayoutPressModel" "printedWays" "I", Cond.fieldLink RX11 158 "LayoutPressModel" "printed" "[I", Cond.fieldLink RX11 404 "LayoutPressModel" "isBroken" "Z"]
def wsX11_printByAll : List Cond := .code yX11_printByAll cX11_printByAll 10 (some .int) :: ((wsX11_printByAll_r1 ++ (wsX11_printByAll_r2 ++ (wsX11_printByAll_r3 ++ (wsX11_printByAll_r4 ++ (wsX11_printByAll_r5 ++ wsX11_printByAll_r6))))) ++ wsX110 ++ (vx_atM "java/lang/ArrayIndexOutOfBoundsException" ["java/lang/IndexOutOfBoundsException", "java/lang/RuntimeException", "java/lang/Exception"]).filter goodWord)
def wsX11_printGreedy_r1 : List Cond := [Cond.fieldLink RX11 332 "LayoutPressModel" "givenMany" "I", Cond.fieldLink RX11 140 "LayoutPressModel" "given" "[I", Cond.fieldLink RX11 329 "LayoutPressModel" "toldMany" "I", Cond.fieldLink RX11 335 "LayoutPressModel" "isImpossible" "Z", Cond.fieldLink RX11 192 "LayoutPressModel" "thrown" "I", Cond.methodLink RX11 413 yX11_asksToPrint, Cond.instanceMethod yX11_asksToPrint, Cond.selects RX11 yX11_asksToPrint yX11_asksToPrint, Cond.initialized RX11, Cond.code yX11_asksToPrint cX11_asksToPrint 5 (some .boolean), Cond.fieldLink RX11 261 "LayoutPressModel" "width" "I", Cond.fieldLink RX11 264 "LayoutPressModel" "ribbon" "I", Cond.fieldLink RX11 280 "LayoutPressModel" "endPrice" "I", Cond.methodLink RX11 222 yX11_isNode, Cond.instanceMethod yX11_isNode, Cond.selects RX11 yX11_isNode yX11_isNode, Cond.code yX11_isNode cX11_isNode 2 (some .boolean), Cond.fieldLink RX11 188 "LayoutPressModel" "nodeMany" "I", Cond.methodLink RX11 195 yX11_in, Cond.static yX11_in, Cond.code yX11_in cX11_in 3 (some .boolean), Cond.methodLink RX11 317 yX11_laySteps, Cond.instanceMethod yX11_laySteps, Cond.selects RX11 yX11_laySteps yX11_laySteps]
def wsX11_printGreedy_r2 : List Cond := [Cond.code yX11_laySteps cX11_laySteps 5 none, Cond.fieldLink RX11 241 "LayoutPressModel" "stepMany" "I", Cond.fieldLink RX11 238 "LayoutPressModel" "workMany" "I", Cond.fieldLink RX11 77 "LayoutPressModel" "cellWidths" "[I", Cond.fieldLink RX11 74 "LayoutPressModel" "work" "[I", Cond.fieldLink RX11 50 "LayoutPressModel" "stepNodes" "[I", Cond.fieldLink RX11 56 "LayoutPressModel" "mids" "[I", Cond.fieldLink RX11 59 "LayoutPressModel" "leaves" "[I", Cond.methodLink RX11 247 yX11_later, Cond.instanceMethod yX11_later, Cond.selects RX11 yX11_later yX11_later, Cond.code yX11_later cX11_later 3 none, Cond.methodLink RX11 251 yX11_layNode, Cond.instanceMethod yX11_layNode, Cond.selects RX11 yX11_layNode yX11_layNode, Cond.code yX11_layNode cX11_layNode 4 none, Cond.fieldLink RX11 7 "LayoutPressModel" "kinds" "[I", Cond.fieldLink RX11 22 "LayoutPressModel" "seconds" "[I", Cond.fieldLink RX11 19 "LayoutPressModel" "firsts" "[I", Cond.fieldLink RX11 13 "LayoutPressModel" "ones" "[I", Cond.fieldLink RX11 40 "LayoutPressModel" "flatWidths" "[I", Cond.methodLink RX11 244 yX11_step, Cond.instanceMethod yX11_step, Cond.selects RX11 yX11_step yX11_step]
def wsX11_printGreedy_r3 : List Cond := [Cond.code yX11_step cX11_step 4 (some .int), Cond.fieldLink RX11 47 "LayoutPressModel" "stepKinds" "[I", Cond.fieldLink RX11 53 "LayoutPressModel" "enters" "[I", Cond.methodLink RX11 206 yX11_greater, Cond.static yX11_greater, Cond.code yX11_greater cX11_greater 2 (some .int), Cond.methodLink RX11 255 yX11_layRegions, Cond.instanceMethod yX11_layRegions, Cond.selects RX11 yX11_layRegions yX11_layRegions, Cond.code yX11_layRegions cX11_layRegions 4 none, Cond.fieldLink RX11 71 "LayoutPressModel" "lastEnds" "[I", Cond.fieldLink RX11 68 "LayoutPressModel" "regions" "[I", Cond.fieldLink RX11 62 "LayoutPressModel" "isForWithin" "[Z", Cond.fieldLink RX11 65 "LayoutPressModel" "isForBehind" "[Z", Cond.methodLink RX11 258 yX11_endsLine, Cond.static yX11_endsLine, Cond.code yX11_endsLine cX11_endsLine 1 (some .boolean), Cond.methodLink RX11 395 yX11_play, Cond.instanceMethod yX11_play, Cond.selects RX11 yX11_play yX11_play, Cond.code yX11_play cX11_play 5 none, Cond.fieldLink RX11 356 "LayoutPressModel" "column" "I", Cond.fieldLink RX11 341 "LayoutPressModel" "start" "I", Cond.fieldLink RX11 339 "LayoutPressModel" "end" "I"]
def wsX11_printGreedy_r4 : List Cond := [Cond.fieldLink RX11 359 "LayoutPressModel" "hasRemark" "Z", Cond.fieldLink RX11 362 "LayoutPressModel" "flatBy" "I", Cond.fieldLink RX11 353 "LayoutPressModel" "indent" "I", Cond.fieldLink RX11 375 "LayoutPressModel" "openMany" "I", Cond.fieldLink RX11 382 "LayoutPressModel" "pass" "I", Cond.fieldLink RX11 347 "LayoutPressModel" "cost" "I", Cond.fieldLink RX11 350 "LayoutPressModel" "lineNow" "I", Cond.fieldLink RX11 344 "LayoutPressModel" "isOver" "Z", Cond.methodLink RX11 388 yX11_playEnter, Cond.instanceMethod yX11_playEnter, Cond.selects RX11 yX11_playEnter yX11_playEnter, Cond.code yX11_playEnter cX11_playEnter 6 none, Cond.fieldLink RX11 170 "LayoutPressModel" "enterLines" "[I", Cond.fieldLink RX11 155 "LayoutPressModel" "places" "[I", Cond.fieldLink RX11 143 "LayoutPressModel" "openIndents" "[I", Cond.methodLink RX11 371 yX11_playLeaf, Cond.instanceMethod yX11_playLeaf, Cond.selects RX11 yX11_playLeaf yX11_playLeaf, Cond.code yX11_playLeaf cX11_playLeaf 6 none, Cond.fieldLink RX11 146 "LayoutPressModel" "rowLines" "[I", Cond.fieldLink RX11 365 "LayoutPressModel" "rowMany" "I", Cond.fieldLink RX11 149 "LayoutPressModel" "rowColumns" "[I", Cond.fieldLink RX11 152 "LayoutPressModel" "rowNodes" "[I", Cond.fieldLink RX11 16 "LayoutPressModel" "counts" "[I"]
def wsX11_printGreedy_r5 : List Cond := [Cond.methodLink RX11 368 yX11_playEnd, Cond.instanceMethod yX11_playEnd, Cond.selects RX11 yX11_playEnd yX11_playEnd, Cond.code yX11_playEnd cX11_playEnd 2 none, Cond.methodLink RX11 277 yX11_lineCost, Cond.instanceMethod yX11_lineCost, Cond.selects RX11 yX11_lineCost yX11_lineCost, Cond.code yX11_lineCost cX11_lineCost 5 (some .int), Cond.methodLink RX11 378 yX11_wayNow, Cond.instanceMethod yX11_wayNow, Cond.selects RX11 yX11_wayNow yX11_wayNow, Cond.code yX11_wayNow cX11_wayNow 2 (some .int), Cond.methodLink RX11 391 yX11_playLeave, Cond.instanceMethod yX11_playLeave, Cond.selects RX11 yX11_playLeave yX11_playLeave, Cond.code yX11_playLeave cX11_playLeave 5 none, Cond.fieldLink RX11 161 "LayoutPressModel" "keepFroms" "[I", Cond.fieldLink RX11 385 "LayoutPressModel" "keepMany" "I", Cond.fieldLink RX11 164 "LayoutPressModel" "keepTos" "[I", Cond.fieldLink RX11 167 "LayoutPressModel" "keepCosts" "[I", Cond.methodLink RX11 429 yX11_fitsNow, Cond.instanceMethod yX11_fitsNow, Cond.selects RX11 yX11_fitsNow yX11_fitsNow, Cond.code yX11_fitsNow cX11_fitsNow 1 (some .boolean)]
def wsX11_printGreedy_r6 : List Cond := [Cond.methodLink RX11 410 yX11_record, Cond.instanceMethod yX11_record, Cond.selects RX11 yX11_record yX11_record, Cond.code yX11_record cX11_record 2 (some .int), Cond.fieldLink RX11 398 "LayoutPressModel" "printedLines" "I", Cond.fieldLink RX11 401 "LayoutPressModel" "printedWays" "I", Cond.fieldLink RX11 158 "LayoutPressModel" "printed" "[I", Cond.fieldLink RX11 404 "LayoutPressModel" "isBroken" "Z"]
def wsX11_printGreedy : List Cond := .code yX11_printGreedy cX11_printGreedy 6 (some .int) :: ((wsX11_printGreedy_r1 ++ (wsX11_printGreedy_r2 ++ (wsX11_printGreedy_r3 ++ (wsX11_printGreedy_r4 ++ (wsX11_printGreedy_r5 ++ wsX11_printGreedy_r6))))) ++ wsX110 ++ (vx_atM "java/lang/ArrayIndexOutOfBoundsException" ["java/lang/IndexOutOfBoundsException", "java/lang/RuntimeException", "java/lang/Exception"]).filter goodWord)
def wsX11_isLine : List Cond := .code yX11_isLine cX11_isLine 2 (some .boolean) :: ([.fieldLink RX11 398 "LayoutPressModel" "printedLines" "I", .fieldLink RX11 192 "LayoutPressModel" "thrown" "I", .methodLink RX11 195 yX11_in, .static yX11_in, .initialized RX11, .code yX11_in cX11_in 3 (some .boolean)] ++ wsX110)
def wsX11_lines : List Cond := .code yX11_lines cX11_lines 1 (some .int) :: ([.fieldLink RX11 192 "LayoutPressModel" "thrown" "I", .fieldLink RX11 398 "LayoutPressModel" "printedLines" "I"] ++ wsX110)
def wsX11_length : List Cond := .code yX11_length cX11_length 2 (some .int) :: ([.methodLink RX11 432 yX11_isLine, .instanceMethod yX11_isLine, .selects RX11 yX11_isLine yX11_isLine, .initialized RX11, .code yX11_isLine cX11_isLine 2 (some .boolean), .fieldLink RX11 398 "LayoutPressModel" "printedLines" "I", .fieldLink RX11 192 "LayoutPressModel" "thrown" "I", .methodLink RX11 195 yX11_in, .static yX11_in, .code yX11_in cX11_in 3 (some .boolean), .methodLink RX11 435 yX11_lengthOf, .instanceMethod yX11_lengthOf, .selects RX11 yX11_lengthOf yX11_lengthOf, .code yX11_lengthOf cX11_lengthOf 4 (some .int), .fieldLink RX11 365 "LayoutPressModel" "rowMany" "I", .fieldLink RX11 146 "LayoutPressModel" "rowLines" "[I", .fieldLink RX11 149 "LayoutPressModel" "rowColumns" "[I", .fieldLink RX11 16 "LayoutPressModel" "counts" "[I", .fieldLink RX11 152 "LayoutPressModel" "rowNodes" "[I"] ++ wsX110 ++ (vx_atM "java/lang/ArrayIndexOutOfBoundsException" ["java/lang/IndexOutOfBoundsException", "java/lang/RuntimeException", "java/lang/Exception"]).filter goodWord)
def wsX11_isPlace : List Cond := .code yX11_isPlace cX11_isPlace 3 (some .boolean) :: ([.fieldLink RX11 398 "LayoutPressModel" "printedLines" "I", .fieldLink RX11 192 "LayoutPressModel" "thrown" "I", .methodLink RX11 195 yX11_in, .static yX11_in, .initialized RX11, .code yX11_in cX11_in 3 (some .boolean), .methodLink RX11 435 yX11_lengthOf, .instanceMethod yX11_lengthOf, .selects RX11 yX11_lengthOf yX11_lengthOf, .code yX11_lengthOf cX11_lengthOf 4 (some .int), .fieldLink RX11 365 "LayoutPressModel" "rowMany" "I", .fieldLink RX11 146 "LayoutPressModel" "rowLines" "[I", .fieldLink RX11 149 "LayoutPressModel" "rowColumns" "[I", .fieldLink RX11 16 "LayoutPressModel" "counts" "[I", .fieldLink RX11 152 "LayoutPressModel" "rowNodes" "[I"] ++ wsX110 ++ (vx_atM "java/lang/ArrayIndexOutOfBoundsException" ["java/lang/IndexOutOfBoundsException", "java/lang/RuntimeException", "java/lang/Exception"]).filter goodWord)
def wsX11_signAt_r1 : List Cond := [Cond.fieldLink RX11 152 "LayoutPressModel" "rowNodes" "[I", Cond.fieldLink RX11 7 "LayoutPressModel" "kinds" "[I", Cond.fieldLink RX11 13 "LayoutPressModel" "ones" "[I", Cond.methodLink RX11 438 yX11_isPlace, Cond.instanceMethod yX11_isPlace, Cond.selects RX11 yX11_isPlace yX11_isPlace, Cond.initialized RX11, Cond.code yX11_isPlace cX11_isPlace 3 (some .boolean), Cond.fieldLink RX11 398 "LayoutPressModel" "printedLines" "I", Cond.fieldLink RX11 192 "LayoutPressModel" "thrown" "I", Cond.methodLink RX11 195 yX11_in, Cond.static yX11_in, Cond.code yX11_in cX11_in 3 (some .boolean), Cond.methodLink RX11 435 yX11_lengthOf, Cond.instanceMethod yX11_lengthOf, Cond.selects RX11 yX11_lengthOf yX11_lengthOf, Cond.code yX11_lengthOf cX11_lengthOf 4 (some .int), Cond.fieldLink RX11 365 "LayoutPressModel" "rowMany" "I", Cond.fieldLink RX11 146 "LayoutPressModel" "rowLines" "[I", Cond.fieldLink RX11 149 "LayoutPressModel" "rowColumns" "[I", Cond.fieldLink RX11 16 "LayoutPressModel" "counts" "[I", Cond.methodLink RX11 441 yX11_rowAt, Cond.instanceMethod yX11_rowAt, Cond.selects RX11 yX11_rowAt yX11_rowAt]
def wsX11_signAt_r2 : List Cond := [Cond.code yX11_rowAt cX11_rowAt 6 (some .int)]
def wsX11_signAt : List Cond := .code yX11_signAt cX11_signAt 5 (some .char) :: ((wsX11_signAt_r1 ++ wsX11_signAt_r2) ++ wsX110 ++ (vx_atM "java/lang/ArrayIndexOutOfBoundsException" ["java/lang/IndexOutOfBoundsException", "java/lang/RuntimeException", "java/lang/Exception"]).filter goodWord)
def wsX11_nodeAt : List Cond := .code yX11_nodeAt cX11_nodeAt 4 (some .int) :: ([.fieldLink RX11 152 "LayoutPressModel" "rowNodes" "[I", .methodLink RX11 438 yX11_isPlace, .instanceMethod yX11_isPlace, .selects RX11 yX11_isPlace yX11_isPlace, .initialized RX11, .code yX11_isPlace cX11_isPlace 3 (some .boolean), .fieldLink RX11 398 "LayoutPressModel" "printedLines" "I", .fieldLink RX11 192 "LayoutPressModel" "thrown" "I", .methodLink RX11 195 yX11_in, .static yX11_in, .code yX11_in cX11_in 3 (some .boolean), .methodLink RX11 435 yX11_lengthOf, .instanceMethod yX11_lengthOf, .selects RX11 yX11_lengthOf yX11_lengthOf, .code yX11_lengthOf cX11_lengthOf 4 (some .int), .fieldLink RX11 365 "LayoutPressModel" "rowMany" "I", .fieldLink RX11 146 "LayoutPressModel" "rowLines" "[I", .fieldLink RX11 149 "LayoutPressModel" "rowColumns" "[I", .fieldLink RX11 16 "LayoutPressModel" "counts" "[I", .methodLink RX11 441 yX11_rowAt, .instanceMethod yX11_rowAt, .selects RX11 yX11_rowAt yX11_rowAt, .code yX11_rowAt cX11_rowAt 6 (some .int)] ++ wsX110 ++ (vx_atM "java/lang/ArrayIndexOutOfBoundsException" ["java/lang/IndexOutOfBoundsException", "java/lang/RuntimeException", "java/lang/Exception"]).filter goodWord)
def wsX11_placeOf : List Cond := .code yX11_placeOf cX11_placeOf 2 (some .int) :: ([.fieldLink RX11 192 "LayoutPressModel" "thrown" "I", .fieldLink RX11 398 "LayoutPressModel" "printedLines" "I", .fieldLink RX11 155 "LayoutPressModel" "places" "[I", .methodLink RX11 222 yX11_isNode, .instanceMethod yX11_isNode, .selects RX11 yX11_isNode yX11_isNode, .initialized RX11, .code yX11_isNode cX11_isNode 2 (some .boolean), .fieldLink RX11 188 "LayoutPressModel" "nodeMany" "I", .methodLink RX11 195 yX11_in, .static yX11_in, .code yX11_in cX11_in 3 (some .boolean)] ++ wsX110 ++ (vx_atM "java/lang/ArrayIndexOutOfBoundsException" ["java/lang/IndexOutOfBoundsException", "java/lang/RuntimeException", "java/lang/Exception"]).filter goodWord)
def wsX11_decisions : List Cond := .code yX11_decisions cX11_decisions 1 (some .int) :: ([.fieldLink RX11 192 "LayoutPressModel" "thrown" "I", .fieldLink RX11 401 "LayoutPressModel" "printedWays" "I"] ++ wsX110)
def wsX11_wayAt : List Cond := .code yX11_wayAt cX11_wayAt 2 (some .int) :: ([.fieldLink RX11 401 "LayoutPressModel" "printedWays" "I", .fieldLink RX11 192 "LayoutPressModel" "thrown" "I", .fieldLink RX11 158 "LayoutPressModel" "printed" "[I", .methodLink RX11 195 yX11_in, .static yX11_in, .initialized RX11, .code yX11_in cX11_in 3 (some .boolean)] ++ wsX110 ++ (vx_atM "java/lang/ArrayIndexOutOfBoundsException" ["java/lang/IndexOutOfBoundsException", "java/lang/RuntimeException", "java/lang/Exception"]).filter goodWord)
def wsX11_breakPages : List Cond := .code yX11_breakPages cX11_breakPages 9 (some .int) :: ([.fieldLink RX11 398 "LayoutPressModel" "printedLines" "I", .fieldLink RX11 192 "LayoutPressModel" "thrown" "I", .fieldLink RX11 179 "LayoutPressModel" "pageCosts" "[I", .fieldLink RX11 182 "LayoutPressModel" "pagesFrom" "[I", .fieldLink RX11 185 "LayoutPressModel" "firstLines" "[I", .fieldLink RX11 173 "LayoutPressModel" "pageOfLine" "[I", .fieldLink RX11 404 "LayoutPressModel" "isBroken" "Z", .methodLink RX11 195 yX11_in, .static yX11_in, .initialized RX11, .code yX11_in cX11_in 3 (some .boolean), .methodLink RX11 444 yX11_endCost, .instanceMethod yX11_endCost, .selects RX11 yX11_endCost yX11_endCost, .code yX11_endCost cX11_endCost 4 (some .int), .fieldLink RX11 385 "LayoutPressModel" "keepMany" "I", .fieldLink RX11 161 "LayoutPressModel" "keepFroms" "[I", .fieldLink RX11 164 "LayoutPressModel" "keepTos" "[I", .fieldLink RX11 167 "LayoutPressModel" "keepCosts" "[I"] ++ wsX110 ++ (vx_atM "java/lang/ArrayIndexOutOfBoundsException" ["java/lang/IndexOutOfBoundsException", "java/lang/RuntimeException", "java/lang/Exception"]).filter goodWord)
def wsX11_pageOf : List Cond := .code yX11_pageOf cX11_pageOf 2 (some .int) :: ([.fieldLink RX11 398 "LayoutPressModel" "printedLines" "I", .fieldLink RX11 404 "LayoutPressModel" "isBroken" "Z", .fieldLink RX11 192 "LayoutPressModel" "thrown" "I", .fieldLink RX11 173 "LayoutPressModel" "pageOfLine" "[I", .methodLink RX11 195 yX11_in, .static yX11_in, .initialized RX11, .code yX11_in cX11_in 3 (some .boolean)] ++ wsX110 ++ (vx_atM "java/lang/ArrayIndexOutOfBoundsException" ["java/lang/IndexOutOfBoundsException", "java/lang/RuntimeException", "java/lang/Exception"]).filter goodWord)
def wsL_text_r1 : List Cond := [Cond.classLink RL 13 "java/lang/IllegalArgumentException", Cond.methodLink RL 7 yX10_text, Cond.instanceMethod yX10_text, Cond.selects RX10 yX10_text yX10_text, Cond.initialized RX10, Cond.code yX10_text cX10_text 3 (some .int), Cond.classLink RX10 9 RX4, Cond.instantiable RX4 15, Cond.initialized RX4, Cond.fieldLink RX10 60 "LayoutPress$Kind" "TEXT" "LLayoutPress$Kind;", Cond.methodLink RX10 56 yX10_checkRange, Cond.static yX10_checkRange, Cond.code yX10_checkRange cX10_checkRange 3 none, Cond.classLink RX10 234 "java/lang/IllegalArgumentException", Cond.initialized "java/lang/IllegalArgumentException", Cond.methodLink RX10 66 yX4_init, Cond.instanceMethod yX4_init, Cond.code yX4_init cX4_init 4 none, Cond.methodLink RX4 3 objectInit, Cond.instanceMethod objectInit, Cond.code objectInit ⟨#[0xb1]⟩ 1 none, Cond.fieldLink RX4 9 "LayoutPress$Node" "kind" "LLayoutPress$Kind;", Cond.fieldLink RX4 15 "LayoutPress$Node" "value" "I", Cond.fieldLink RX4 19 "LayoutPress$Node" "first" "LLayoutPress$Node;"]
def wsL_text_r2 : List Cond := [Cond.fieldLink RX4 23 "LayoutPress$Node" "second" "LLayoutPress$Node;", Cond.fieldLink RX4 26 "LayoutPress$Node" "leaves" "I", Cond.fieldLink RX4 29 "LayoutPress$Node" "flatWidth" "I", Cond.fieldLink RX4 38 "LayoutPress$Node" "barred" "Z", Cond.fieldLink RX4 45 "LayoutPress$Node" "indents" "Z", Cond.fieldLink RX4 52 "LayoutPress$Node" "traits" "I", Cond.fieldLink RX4 55 "LayoutPress$Node" "layoutCount" "I", Cond.fieldLink RX4 58 "LayoutPress$Node" "flatLayoutCount" "I", Cond.methodLink RX4 41 yX3_endsLine, Cond.instanceMethod yX3_endsLine, Cond.selects RX3 yX3_endsLine yX3_endsLine, Cond.initialized RX3, Cond.code yX3_endsLine cX3_endsLine 1 (some .boolean), Cond.fieldLink RX3 10 "LayoutPress$Kind" "LINE" "LLayoutPress$Kind;", Cond.fieldLink RX3 13 "LayoutPress$Kind" "SOFT" "LLayoutPress$Kind;", Cond.fieldLink RX3 16 "LayoutPress$Kind" "HARD" "LLayoutPress$Kind;", Cond.methodLink RX4 48 yX4_traitsOfLeaf, Cond.static yX4_traitsOfLeaf, Cond.code yX4_traitsOfLeaf cX4_traitsOfLeaf 2 (some .int), Cond.fieldLink RX4 69 "LayoutPress$Kind" "TAB" "LLayoutPress$Kind;", Cond.methodLink RX10 69 yX10_add, Cond.instanceMethod yX10_add, Cond.selects RX10 yX10_add yX10_add, Cond.code yX10_add cX10_add 2 (some .int)]
def wsL_text_r3 : List Cond := [Cond.classLink RX10 126 "java/lang/IllegalStateException", Cond.initialized "java/lang/IllegalStateException", Cond.fieldLink RX10 15 "LayoutPress" "madeCount" "I", Cond.fieldLink RX10 11 "LayoutPress" "made" "[LLayoutPress$Node;", Cond.methodLink RX10 252 yX4_take, Cond.instanceMethod yX4_take, Cond.selects RX4 yX4_take yX4_take, Cond.code yX4_take cX4_take 2 none, Cond.fieldLink RX4 116 "LayoutPress$Node" "number" "I", Cond.fieldLink RX4 81 "LayoutPress$Node" "within" "J", Cond.methodLink RX4 119 yX4_bit, Cond.instanceMethod yX4_bit, Cond.selects RX4 yX4_bit yX4_bit, Cond.code yX4_bit cX4_bit 1 (some .long)]
def wsL_text : List Cond := .codeWith yL_text cL_text 5 (some .int) [(0, 10, 13, 13), (0, 10, 17, 15)] :: ((wsL_text_r1 ++ (wsL_text_r2 ++ wsL_text_r3)) ++ wsX40 ++ wsX100 ++ (vx_atM "java/lang/ArrayIndexOutOfBoundsException" ["java/lang/IndexOutOfBoundsException", "java/lang/RuntimeException", "java/lang/Exception"]).filter goodWord ++ (vx_atS RX10 238 "java/lang/IllegalArgumentException" ["java/lang/RuntimeException", "java/lang/Exception"]).filter goodWord ++ (vx_atS RX10 130 "java/lang/IllegalStateException" ["java/lang/RuntimeException", "java/lang/Exception"]).filter goodWord)
def wsL_remark_r1 : List Cond := [Cond.classLink RL 13 "java/lang/IllegalArgumentException", Cond.methodLink RL 17 yX10_remark, Cond.instanceMethod yX10_remark, Cond.selects RX10 yX10_remark yX10_remark, Cond.initialized RX10, Cond.code yX10_remark cX10_remark 3 (some .int), Cond.classLink RX10 9 RX4, Cond.instantiable RX4 15, Cond.initialized RX4, Cond.fieldLink RX10 73 "LayoutPress$Kind" "REMARK" "LLayoutPress$Kind;", Cond.methodLink RX10 56 yX10_checkRange, Cond.static yX10_checkRange, Cond.code yX10_checkRange cX10_checkRange 3 none, Cond.classLink RX10 234 "java/lang/IllegalArgumentException", Cond.initialized "java/lang/IllegalArgumentException", Cond.methodLink RX10 66 yX4_init, Cond.instanceMethod yX4_init, Cond.code yX4_init cX4_init 4 none, Cond.methodLink RX4 3 objectInit, Cond.instanceMethod objectInit, Cond.code objectInit ⟨#[0xb1]⟩ 1 none, Cond.fieldLink RX4 9 "LayoutPress$Node" "kind" "LLayoutPress$Kind;", Cond.fieldLink RX4 15 "LayoutPress$Node" "value" "I", Cond.fieldLink RX4 19 "LayoutPress$Node" "first" "LLayoutPress$Node;"]
def wsL_remark_r2 : List Cond := [Cond.fieldLink RX4 23 "LayoutPress$Node" "second" "LLayoutPress$Node;", Cond.fieldLink RX4 26 "LayoutPress$Node" "leaves" "I", Cond.fieldLink RX4 29 "LayoutPress$Node" "flatWidth" "I", Cond.fieldLink RX4 38 "LayoutPress$Node" "barred" "Z", Cond.fieldLink RX4 45 "LayoutPress$Node" "indents" "Z", Cond.fieldLink RX4 52 "LayoutPress$Node" "traits" "I", Cond.fieldLink RX4 55 "LayoutPress$Node" "layoutCount" "I", Cond.fieldLink RX4 58 "LayoutPress$Node" "flatLayoutCount" "I", Cond.methodLink RX4 41 yX3_endsLine, Cond.instanceMethod yX3_endsLine, Cond.selects RX3 yX3_endsLine yX3_endsLine, Cond.initialized RX3, Cond.code yX3_endsLine cX3_endsLine 1 (some .boolean), Cond.fieldLink RX3 10 "LayoutPress$Kind" "LINE" "LLayoutPress$Kind;", Cond.fieldLink RX3 13 "LayoutPress$Kind" "SOFT" "LLayoutPress$Kind;", Cond.fieldLink RX3 16 "LayoutPress$Kind" "HARD" "LLayoutPress$Kind;", Cond.methodLink RX4 48 yX4_traitsOfLeaf, Cond.static yX4_traitsOfLeaf, Cond.code yX4_traitsOfLeaf cX4_traitsOfLeaf 2 (some .int), Cond.fieldLink RX4 69 "LayoutPress$Kind" "TAB" "LLayoutPress$Kind;", Cond.methodLink RX10 69 yX10_add, Cond.instanceMethod yX10_add, Cond.selects RX10 yX10_add yX10_add, Cond.code yX10_add cX10_add 2 (some .int)]
def wsL_remark_r3 : List Cond := [Cond.classLink RX10 126 "java/lang/IllegalStateException", Cond.initialized "java/lang/IllegalStateException", Cond.fieldLink RX10 15 "LayoutPress" "madeCount" "I", Cond.fieldLink RX10 11 "LayoutPress" "made" "[LLayoutPress$Node;", Cond.methodLink RX10 252 yX4_take, Cond.instanceMethod yX4_take, Cond.selects RX4 yX4_take yX4_take, Cond.code yX4_take cX4_take 2 none, Cond.fieldLink RX4 116 "LayoutPress$Node" "number" "I", Cond.fieldLink RX4 81 "LayoutPress$Node" "within" "J", Cond.methodLink RX4 119 yX4_bit, Cond.instanceMethod yX4_bit, Cond.selects RX4 yX4_bit yX4_bit, Cond.code yX4_bit cX4_bit 1 (some .long)]
def wsL_remark : List Cond := .codeWith yL_remark cL_remark 5 (some .int) [(0, 10, 13, 13), (0, 10, 17, 15)] :: ((wsL_remark_r1 ++ (wsL_remark_r2 ++ wsL_remark_r3)) ++ wsX40 ++ wsX100 ++ (vx_atM "java/lang/ArrayIndexOutOfBoundsException" ["java/lang/IndexOutOfBoundsException", "java/lang/RuntimeException", "java/lang/Exception"]).filter goodWord ++ (vx_atS RX10 238 "java/lang/IllegalArgumentException" ["java/lang/RuntimeException", "java/lang/Exception"]).filter goodWord ++ (vx_atS RX10 130 "java/lang/IllegalStateException" ["java/lang/RuntimeException", "java/lang/Exception"]).filter goodWord)
def wsL_line_r1 : List Cond := [Cond.classLink RL 15 "java/lang/IllegalStateException", Cond.methodLink RL 20 yX10_line, Cond.instanceMethod yX10_line, Cond.selects RX10 yX10_line yX10_line, Cond.initialized RX10, Cond.code yX10_line cX10_line 1 (some .int), Cond.classLink RX10 9 RX4, Cond.instantiable RX4 15, Cond.initialized RX4, Cond.fieldLink RX10 76 "LayoutPress$Kind" "LINE" "LLayoutPress$Kind;", Cond.methodLink RX10 66 yX4_init, Cond.instanceMethod yX4_init, Cond.code yX4_init cX4_init 4 none, Cond.methodLink RX4 3 objectInit, Cond.instanceMethod objectInit, Cond.code objectInit ⟨#[0xb1]⟩ 1 none, Cond.fieldLink RX4 9 "LayoutPress$Node" "kind" "LLayoutPress$Kind;", Cond.fieldLink RX4 15 "LayoutPress$Node" "value" "I", Cond.fieldLink RX4 19 "LayoutPress$Node" "first" "LLayoutPress$Node;", Cond.fieldLink RX4 23 "LayoutPress$Node" "second" "LLayoutPress$Node;", Cond.fieldLink RX4 26 "LayoutPress$Node" "leaves" "I", Cond.fieldLink RX4 29 "LayoutPress$Node" "flatWidth" "I", Cond.fieldLink RX4 38 "LayoutPress$Node" "barred" "Z", Cond.fieldLink RX4 45 "LayoutPress$Node" "indents" "Z"]
def wsL_line_r2 : List Cond := [Cond.fieldLink RX4 52 "LayoutPress$Node" "traits" "I", Cond.fieldLink RX4 55 "LayoutPress$Node" "layoutCount" "I", Cond.fieldLink RX4 58 "LayoutPress$Node" "flatLayoutCount" "I", Cond.methodLink RX4 41 yX3_endsLine, Cond.instanceMethod yX3_endsLine, Cond.selects RX3 yX3_endsLine yX3_endsLine, Cond.initialized RX3, Cond.code yX3_endsLine cX3_endsLine 1 (some .boolean), Cond.fieldLink RX3 10 "LayoutPress$Kind" "LINE" "LLayoutPress$Kind;", Cond.fieldLink RX3 13 "LayoutPress$Kind" "SOFT" "LLayoutPress$Kind;", Cond.fieldLink RX3 16 "LayoutPress$Kind" "HARD" "LLayoutPress$Kind;", Cond.methodLink RX4 48 yX4_traitsOfLeaf, Cond.static yX4_traitsOfLeaf, Cond.code yX4_traitsOfLeaf cX4_traitsOfLeaf 2 (some .int), Cond.fieldLink RX4 69 "LayoutPress$Kind" "TAB" "LLayoutPress$Kind;", Cond.methodLink RX10 69 yX10_add, Cond.instanceMethod yX10_add, Cond.selects RX10 yX10_add yX10_add, Cond.code yX10_add cX10_add 2 (some .int), Cond.classLink RX10 126 "java/lang/IllegalStateException", Cond.initialized "java/lang/IllegalStateException", Cond.fieldLink RX10 15 "LayoutPress" "madeCount" "I", Cond.fieldLink RX10 11 "LayoutPress" "made" "[LLayoutPress$Node;", Cond.methodLink RX10 252 yX4_take]
def wsL_line_r3 : List Cond := [Cond.instanceMethod yX4_take, Cond.selects RX4 yX4_take yX4_take, Cond.code yX4_take cX4_take 2 none, Cond.fieldLink RX4 116 "LayoutPress$Node" "number" "I", Cond.fieldLink RX4 81 "LayoutPress$Node" "within" "J", Cond.methodLink RX4 119 yX4_bit, Cond.instanceMethod yX4_bit, Cond.selects RX4 yX4_bit yX4_bit, Cond.code yX4_bit cX4_bit 1 (some .long)]
def wsL_line : List Cond := .codeWith yL_line cL_line 3 (some .int) [(0, 8, 11, 15)] :: ((wsL_line_r1 ++ (wsL_line_r2 ++ wsL_line_r3)) ++ wsX40 ++ wsX100 ++ (vx_atM "java/lang/ArrayIndexOutOfBoundsException" ["java/lang/IndexOutOfBoundsException", "java/lang/RuntimeException", "java/lang/Exception"]).filter goodWord ++ (vx_atS RX10 130 "java/lang/IllegalStateException" ["java/lang/RuntimeException", "java/lang/Exception"]).filter goodWord)
def wsL_soft_r1 : List Cond := [Cond.classLink RL 15 "java/lang/IllegalStateException", Cond.methodLink RL 24 yX10_soft, Cond.instanceMethod yX10_soft, Cond.selects RX10 yX10_soft yX10_soft, Cond.initialized RX10, Cond.code yX10_soft cX10_soft 1 (some .int), Cond.classLink RX10 9 RX4, Cond.instantiable RX4 15, Cond.initialized RX4, Cond.fieldLink RX10 79 "LayoutPress$Kind" "SOFT" "LLayoutPress$Kind;", Cond.methodLink RX10 66 yX4_init, Cond.instanceMethod yX4_init, Cond.code yX4_init cX4_init 4 none, Cond.methodLink RX4 3 objectInit, Cond.instanceMethod objectInit, Cond.code objectInit ⟨#[0xb1]⟩ 1 none, Cond.fieldLink RX4 9 "LayoutPress$Node" "kind" "LLayoutPress$Kind;", Cond.fieldLink RX4 15 "LayoutPress$Node" "value" "I", Cond.fieldLink RX4 19 "LayoutPress$Node" "first" "LLayoutPress$Node;", Cond.fieldLink RX4 23 "LayoutPress$Node" "second" "LLayoutPress$Node;", Cond.fieldLink RX4 26 "LayoutPress$Node" "leaves" "I", Cond.fieldLink RX4 29 "LayoutPress$Node" "flatWidth" "I", Cond.fieldLink RX4 38 "LayoutPress$Node" "barred" "Z", Cond.fieldLink RX4 45 "LayoutPress$Node" "indents" "Z"]
def wsL_soft_r2 : List Cond := [Cond.fieldLink RX4 52 "LayoutPress$Node" "traits" "I", Cond.fieldLink RX4 55 "LayoutPress$Node" "layoutCount" "I", Cond.fieldLink RX4 58 "LayoutPress$Node" "flatLayoutCount" "I", Cond.methodLink RX4 41 yX3_endsLine, Cond.instanceMethod yX3_endsLine, Cond.selects RX3 yX3_endsLine yX3_endsLine, Cond.initialized RX3, Cond.code yX3_endsLine cX3_endsLine 1 (some .boolean), Cond.fieldLink RX3 10 "LayoutPress$Kind" "LINE" "LLayoutPress$Kind;", Cond.fieldLink RX3 13 "LayoutPress$Kind" "SOFT" "LLayoutPress$Kind;", Cond.fieldLink RX3 16 "LayoutPress$Kind" "HARD" "LLayoutPress$Kind;", Cond.methodLink RX4 48 yX4_traitsOfLeaf, Cond.static yX4_traitsOfLeaf, Cond.code yX4_traitsOfLeaf cX4_traitsOfLeaf 2 (some .int), Cond.fieldLink RX4 69 "LayoutPress$Kind" "TAB" "LLayoutPress$Kind;", Cond.methodLink RX10 69 yX10_add, Cond.instanceMethod yX10_add, Cond.selects RX10 yX10_add yX10_add, Cond.code yX10_add cX10_add 2 (some .int), Cond.classLink RX10 126 "java/lang/IllegalStateException", Cond.initialized "java/lang/IllegalStateException", Cond.fieldLink RX10 15 "LayoutPress" "madeCount" "I", Cond.fieldLink RX10 11 "LayoutPress" "made" "[LLayoutPress$Node;", Cond.methodLink RX10 252 yX4_take]
def wsL_soft_r3 : List Cond := [Cond.instanceMethod yX4_take, Cond.selects RX4 yX4_take yX4_take, Cond.code yX4_take cX4_take 2 none, Cond.fieldLink RX4 116 "LayoutPress$Node" "number" "I", Cond.fieldLink RX4 81 "LayoutPress$Node" "within" "J", Cond.methodLink RX4 119 yX4_bit, Cond.instanceMethod yX4_bit, Cond.selects RX4 yX4_bit yX4_bit, Cond.code yX4_bit cX4_bit 1 (some .long)]
def wsL_soft : List Cond := .codeWith yL_soft cL_soft 3 (some .int) [(0, 8, 11, 15)] :: ((wsL_soft_r1 ++ (wsL_soft_r2 ++ wsL_soft_r3)) ++ wsX40 ++ wsX100 ++ (vx_atM "java/lang/ArrayIndexOutOfBoundsException" ["java/lang/IndexOutOfBoundsException", "java/lang/RuntimeException", "java/lang/Exception"]).filter goodWord ++ (vx_atS RX10 130 "java/lang/IllegalStateException" ["java/lang/RuntimeException", "java/lang/Exception"]).filter goodWord)
def wsL_hard_r1 : List Cond := [Cond.classLink RL 15 "java/lang/IllegalStateException", Cond.methodLink RL 27 yX10_hard, Cond.instanceMethod yX10_hard, Cond.selects RX10 yX10_hard yX10_hard, Cond.initialized RX10, Cond.code yX10_hard cX10_hard 1 (some .int), Cond.classLink RX10 9 RX4, Cond.instantiable RX4 15, Cond.initialized RX4, Cond.fieldLink RX10 82 "LayoutPress$Kind" "HARD" "LLayoutPress$Kind;", Cond.methodLink RX10 66 yX4_init, Cond.instanceMethod yX4_init, Cond.code yX4_init cX4_init 4 none, Cond.methodLink RX4 3 objectInit, Cond.instanceMethod objectInit, Cond.code objectInit ⟨#[0xb1]⟩ 1 none, Cond.fieldLink RX4 9 "LayoutPress$Node" "kind" "LLayoutPress$Kind;", Cond.fieldLink RX4 15 "LayoutPress$Node" "value" "I", Cond.fieldLink RX4 19 "LayoutPress$Node" "first" "LLayoutPress$Node;", Cond.fieldLink RX4 23 "LayoutPress$Node" "second" "LLayoutPress$Node;", Cond.fieldLink RX4 26 "LayoutPress$Node" "leaves" "I", Cond.fieldLink RX4 29 "LayoutPress$Node" "flatWidth" "I", Cond.fieldLink RX4 38 "LayoutPress$Node" "barred" "Z", Cond.fieldLink RX4 45 "LayoutPress$Node" "indents" "Z"]
def wsL_hard_r2 : List Cond := [Cond.fieldLink RX4 52 "LayoutPress$Node" "traits" "I", Cond.fieldLink RX4 55 "LayoutPress$Node" "layoutCount" "I", Cond.fieldLink RX4 58 "LayoutPress$Node" "flatLayoutCount" "I", Cond.methodLink RX4 41 yX3_endsLine, Cond.instanceMethod yX3_endsLine, Cond.selects RX3 yX3_endsLine yX3_endsLine, Cond.initialized RX3, Cond.code yX3_endsLine cX3_endsLine 1 (some .boolean), Cond.fieldLink RX3 10 "LayoutPress$Kind" "LINE" "LLayoutPress$Kind;", Cond.fieldLink RX3 13 "LayoutPress$Kind" "SOFT" "LLayoutPress$Kind;", Cond.fieldLink RX3 16 "LayoutPress$Kind" "HARD" "LLayoutPress$Kind;", Cond.methodLink RX4 48 yX4_traitsOfLeaf, Cond.static yX4_traitsOfLeaf, Cond.code yX4_traitsOfLeaf cX4_traitsOfLeaf 2 (some .int), Cond.fieldLink RX4 69 "LayoutPress$Kind" "TAB" "LLayoutPress$Kind;", Cond.methodLink RX10 69 yX10_add, Cond.instanceMethod yX10_add, Cond.selects RX10 yX10_add yX10_add, Cond.code yX10_add cX10_add 2 (some .int), Cond.classLink RX10 126 "java/lang/IllegalStateException", Cond.initialized "java/lang/IllegalStateException", Cond.fieldLink RX10 15 "LayoutPress" "madeCount" "I", Cond.fieldLink RX10 11 "LayoutPress" "made" "[LLayoutPress$Node;", Cond.methodLink RX10 252 yX4_take]
def wsL_hard_r3 : List Cond := [Cond.instanceMethod yX4_take, Cond.selects RX4 yX4_take yX4_take, Cond.code yX4_take cX4_take 2 none, Cond.fieldLink RX4 116 "LayoutPress$Node" "number" "I", Cond.fieldLink RX4 81 "LayoutPress$Node" "within" "J", Cond.methodLink RX4 119 yX4_bit, Cond.instanceMethod yX4_bit, Cond.selects RX4 yX4_bit yX4_bit, Cond.code yX4_bit cX4_bit 1 (some .long)]
def wsL_hard : List Cond := .codeWith yL_hard cL_hard 3 (some .int) [(0, 8, 11, 15)] :: ((wsL_hard_r1 ++ (wsL_hard_r2 ++ wsL_hard_r3)) ++ wsX40 ++ wsX100 ++ (vx_atM "java/lang/ArrayIndexOutOfBoundsException" ["java/lang/IndexOutOfBoundsException", "java/lang/RuntimeException", "java/lang/Exception"]).filter goodWord ++ (vx_atS RX10 130 "java/lang/IllegalStateException" ["java/lang/RuntimeException", "java/lang/Exception"]).filter goodWord)
def wsL_tab_r1 : List Cond := [Cond.classLink RL 13 "java/lang/IllegalArgumentException", Cond.methodLink RL 30 yX10_tab, Cond.instanceMethod yX10_tab, Cond.selects RX10 yX10_tab yX10_tab, Cond.initialized RX10, Cond.code yX10_tab cX10_tab 2 (some .int), Cond.classLink RX10 9 RX4, Cond.instantiable RX4 15, Cond.initialized RX4, Cond.fieldLink RX10 85 "LayoutPress$Kind" "TAB" "LLayoutPress$Kind;", Cond.methodLink RX10 56 yX10_checkRange, Cond.static yX10_checkRange, Cond.code yX10_checkRange cX10_checkRange 3 none, Cond.classLink RX10 234 "java/lang/IllegalArgumentException", Cond.initialized "java/lang/IllegalArgumentException", Cond.methodLink RX10 66 yX4_init, Cond.instanceMethod yX4_init, Cond.code yX4_init cX4_init 4 none, Cond.methodLink RX4 3 objectInit, Cond.instanceMethod objectInit, Cond.code objectInit ⟨#[0xb1]⟩ 1 none, Cond.fieldLink RX4 9 "LayoutPress$Node" "kind" "LLayoutPress$Kind;", Cond.fieldLink RX4 15 "LayoutPress$Node" "value" "I", Cond.fieldLink RX4 19 "LayoutPress$Node" "first" "LLayoutPress$Node;"]
def wsL_tab_r2 : List Cond := [Cond.fieldLink RX4 23 "LayoutPress$Node" "second" "LLayoutPress$Node;", Cond.fieldLink RX4 26 "LayoutPress$Node" "leaves" "I", Cond.fieldLink RX4 29 "LayoutPress$Node" "flatWidth" "I", Cond.fieldLink RX4 38 "LayoutPress$Node" "barred" "Z", Cond.fieldLink RX4 45 "LayoutPress$Node" "indents" "Z", Cond.fieldLink RX4 52 "LayoutPress$Node" "traits" "I", Cond.fieldLink RX4 55 "LayoutPress$Node" "layoutCount" "I", Cond.fieldLink RX4 58 "LayoutPress$Node" "flatLayoutCount" "I", Cond.methodLink RX4 41 yX3_endsLine, Cond.instanceMethod yX3_endsLine, Cond.selects RX3 yX3_endsLine yX3_endsLine, Cond.initialized RX3, Cond.code yX3_endsLine cX3_endsLine 1 (some .boolean), Cond.fieldLink RX3 10 "LayoutPress$Kind" "LINE" "LLayoutPress$Kind;", Cond.fieldLink RX3 13 "LayoutPress$Kind" "SOFT" "LLayoutPress$Kind;", Cond.fieldLink RX3 16 "LayoutPress$Kind" "HARD" "LLayoutPress$Kind;", Cond.methodLink RX4 48 yX4_traitsOfLeaf, Cond.static yX4_traitsOfLeaf, Cond.code yX4_traitsOfLeaf cX4_traitsOfLeaf 2 (some .int), Cond.fieldLink RX4 69 "LayoutPress$Kind" "TAB" "LLayoutPress$Kind;", Cond.methodLink RX10 69 yX10_add, Cond.instanceMethod yX10_add, Cond.selects RX10 yX10_add yX10_add, Cond.code yX10_add cX10_add 2 (some .int)]
def wsL_tab_r3 : List Cond := [Cond.classLink RX10 126 "java/lang/IllegalStateException", Cond.initialized "java/lang/IllegalStateException", Cond.fieldLink RX10 15 "LayoutPress" "madeCount" "I", Cond.fieldLink RX10 11 "LayoutPress" "made" "[LLayoutPress$Node;", Cond.methodLink RX10 252 yX4_take, Cond.instanceMethod yX4_take, Cond.selects RX4 yX4_take yX4_take, Cond.code yX4_take cX4_take 2 none, Cond.fieldLink RX4 116 "LayoutPress$Node" "number" "I", Cond.fieldLink RX4 81 "LayoutPress$Node" "within" "J", Cond.methodLink RX4 119 yX4_bit, Cond.instanceMethod yX4_bit, Cond.selects RX4 yX4_bit yX4_bit, Cond.code yX4_bit cX4_bit 1 (some .long)]
def wsL_tab : List Cond := .codeWith yL_tab cL_tab 4 (some .int) [(0, 9, 12, 13), (0, 9, 15, 15)] :: ((wsL_tab_r1 ++ (wsL_tab_r2 ++ wsL_tab_r3)) ++ wsX40 ++ wsX100 ++ (vx_atM "java/lang/ArrayIndexOutOfBoundsException" ["java/lang/IndexOutOfBoundsException", "java/lang/RuntimeException", "java/lang/Exception"]).filter goodWord ++ (vx_atS RX10 238 "java/lang/IllegalArgumentException" ["java/lang/RuntimeException", "java/lang/Exception"]).filter goodWord ++ (vx_atS RX10 130 "java/lang/IllegalStateException" ["java/lang/RuntimeException", "java/lang/Exception"]).filter goodWord)
def wsL_pair_r1 : List Cond := [Cond.classLink RL 37 "java/lang/IndexOutOfBoundsException", Cond.methodLink RL 34 yX10_pair, Cond.instanceMethod yX10_pair, Cond.selects RX10 yX10_pair yX10_pair, Cond.initialized RX10, Cond.code yX10_pair cX10_pair 3 (some .int), Cond.classLink RX10 9 RX4, Cond.instantiable RX4 15, Cond.initialized RX4, Cond.fieldLink RX10 88 "LayoutPress$Kind" "PAIR" "LLayoutPress$Kind;", Cond.methodLink RX10 91 yX10_nodeOf, Cond.instanceMethod yX10_nodeOf, Cond.selects RX10 yX10_nodeOf yX10_nodeOf, Cond.code yX10_nodeOf cX10_nodeOf 3 (some (.object "LayoutPress$Node")), Cond.classLink RX10 208 "java/lang/IndexOutOfBoundsException", Cond.initialized "java/lang/IndexOutOfBoundsException", Cond.fieldLink RX10 15 "LayoutPress" "madeCount" "I", Cond.fieldLink RX10 11 "LayoutPress" "made" "[LLayoutPress$Node;", Cond.methodLink RX10 95 yX4_init_, Cond.instanceMethod yX4_init_, Cond.code yX4_init_ cX4_init_ 5 none, Cond.methodLink RX4 3 objectInit, Cond.instanceMethod objectInit, Cond.code objectInit ⟨#[0xb1]⟩ 1 none]
def wsL_pair_r2 : List Cond := [Cond.fieldLink RX4 9 "LayoutPress$Node" "kind" "LLayoutPress$Kind;", Cond.fieldLink RX4 15 "LayoutPress$Node" "value" "I", Cond.fieldLink RX4 19 "LayoutPress$Node" "first" "LLayoutPress$Node;", Cond.fieldLink RX4 23 "LayoutPress$Node" "second" "LLayoutPress$Node;", Cond.methodLink RX4 61 yX4_measureTwo, Cond.instanceMethod yX4_measureTwo, Cond.selects RX4 yX4_measureTwo yX4_measureTwo, Cond.code yX4_measureTwo cX4_measureTwo 3 none, Cond.fieldLink RX4 26 "LayoutPress$Node" "leaves" "I", Cond.fieldLink RX4 81 "LayoutPress$Node" "within" "J", Cond.fieldLink RX4 52 "LayoutPress$Node" "traits" "I", Cond.fieldLink RX4 45 "LayoutPress$Node" "indents" "Z", Cond.fieldLink RX4 104 "LayoutPress$Kind" "BROKEN" "LLayoutPress$Kind;", Cond.fieldLink RX4 107 "LayoutPress$Kind" "PAIR" "LLayoutPress$Kind;", Cond.fieldLink RX4 29 "LayoutPress$Node" "flatWidth" "I", Cond.fieldLink RX4 38 "LayoutPress$Node" "barred" "Z", Cond.fieldLink RX4 91 "LayoutPress$Node" "mostWays" "I", Cond.fieldLink RX4 85 "LayoutPress$Node" "mostFlatWays" "I", Cond.fieldLink RX4 55 "LayoutPress$Node" "layoutCount" "I", Cond.fieldLink RX4 58 "LayoutPress$Node" "flatLayoutCount" "I", Cond.fieldLink RX4 110 "LayoutPress$Kind" "CHOICE" "LLayoutPress$Kind;", Cond.methodLink RX4 94 Lib.Math.max.name, Cond.static Lib.Math.max.name, Cond.initialized "java/lang/Math"]
def wsL_pair_r3 : List Cond := [Cond.code Lib.Math.max.name Lib.Math.max.code 2 (some .int), Cond.methodLink RX4 100 yX4_atMostCounted, Cond.static yX4_atMostCounted, Cond.code yX4_atMostCounted cX4_atMostCounted 2 (some .int), Cond.constantLong RX4 113 (1000000), Cond.constant RX4 115 (1000000), Cond.methodLink RX4 65 yX4_measureOne, Cond.instanceMethod yX4_measureOne, Cond.selects RX4 yX4_measureOne yX4_measureOne, Cond.code yX4_measureOne cX4_measureOne 3 none, Cond.fieldLink RX4 72 "LayoutPress$Kind" "FLAT" "LLayoutPress$Kind;", Cond.fieldLink RX4 75 "LayoutPress$Kind" "CELL" "LLayoutPress$Kind;", Cond.fieldLink RX4 78 "LayoutPress$Kind" "ALIGN" "LLayoutPress$Kind;", Cond.fieldLink RX4 88 "LayoutPress$Kind" "GROUP" "LLayoutPress$Kind;", Cond.methodLink RX10 69 yX10_add, Cond.instanceMethod yX10_add, Cond.selects RX10 yX10_add yX10_add, Cond.code yX10_add cX10_add 2 (some .int), Cond.classLink RX10 126 "java/lang/IllegalStateException", Cond.initialized "java/lang/IllegalStateException", Cond.methodLink RX10 252 yX4_take, Cond.instanceMethod yX4_take, Cond.selects RX4 yX4_take yX4_take, Cond.code yX4_take cX4_take 2 none]
def wsL_pair_r4 : List Cond := [Cond.fieldLink RX4 116 "LayoutPress$Node" "number" "I", Cond.methodLink RX4 119 yX4_bit, Cond.instanceMethod yX4_bit, Cond.selects RX4 yX4_bit yX4_bit, Cond.code yX4_bit cX4_bit 1 (some .long)]
def wsL_pair : List Cond := .codeWith yL_pair cL_pair 5 (some .int) [(0, 10, 13, 37), (0, 10, 17, 15)] :: ((wsL_pair_r1 ++ (wsL_pair_r2 ++ (wsL_pair_r3 ++ wsL_pair_r4))) ++ wsX40 ++ wsX100 ++ (vx_atM "java/lang/ArrayIndexOutOfBoundsException" ["java/lang/IndexOutOfBoundsException", "java/lang/RuntimeException", "java/lang/Exception"]).filter goodWord ++ (vx_atS RX10 212 "java/lang/IndexOutOfBoundsException" ["java/lang/RuntimeException", "java/lang/Exception"]).filter goodWord ++ (vx_atS RX10 130 "java/lang/IllegalStateException" ["java/lang/RuntimeException", "java/lang/Exception"]).filter goodWord)
def wsL_nest_r1 : List Cond := [Cond.classLink RL 37 "java/lang/IndexOutOfBoundsException", Cond.methodLink RL 39 yX10_nest, Cond.instanceMethod yX10_nest, Cond.selects RX10 yX10_nest yX10_nest, Cond.initialized RX10, Cond.code yX10_nest cX10_nest 4 (some .int), Cond.classLink RX10 9 RX4, Cond.instantiable RX4 15, Cond.initialized RX4, Cond.fieldLink RX10 98 "LayoutPress$Kind" "NEST" "LLayoutPress$Kind;", Cond.methodLink RX10 91 yX10_nodeOf, Cond.instanceMethod yX10_nodeOf, Cond.selects RX10 yX10_nodeOf yX10_nodeOf, Cond.code yX10_nodeOf cX10_nodeOf 3 (some (.object "LayoutPress$Node")), Cond.classLink RX10 208 "java/lang/IndexOutOfBoundsException", Cond.initialized "java/lang/IndexOutOfBoundsException", Cond.fieldLink RX10 15 "LayoutPress" "madeCount" "I", Cond.fieldLink RX10 11 "LayoutPress" "made" "[LLayoutPress$Node;", Cond.methodLink RX10 56 yX10_checkRange, Cond.static yX10_checkRange, Cond.code yX10_checkRange cX10_checkRange 3 none, Cond.classLink RX10 234 "java/lang/IllegalArgumentException", Cond.initialized "java/lang/IllegalArgumentException", Cond.methodLink RX10 95 yX4_init_]
def wsL_nest_r2 : List Cond := [Cond.instanceMethod yX4_init_, Cond.code yX4_init_ cX4_init_ 5 none, Cond.methodLink RX4 3 objectInit, Cond.instanceMethod objectInit, Cond.code objectInit ⟨#[0xb1]⟩ 1 none, Cond.fieldLink RX4 9 "LayoutPress$Node" "kind" "LLayoutPress$Kind;", Cond.fieldLink RX4 15 "LayoutPress$Node" "value" "I", Cond.fieldLink RX4 19 "LayoutPress$Node" "first" "LLayoutPress$Node;", Cond.fieldLink RX4 23 "LayoutPress$Node" "second" "LLayoutPress$Node;", Cond.methodLink RX4 61 yX4_measureTwo, Cond.instanceMethod yX4_measureTwo, Cond.selects RX4 yX4_measureTwo yX4_measureTwo, Cond.code yX4_measureTwo cX4_measureTwo 3 none, Cond.fieldLink RX4 26 "LayoutPress$Node" "leaves" "I", Cond.fieldLink RX4 81 "LayoutPress$Node" "within" "J", Cond.fieldLink RX4 52 "LayoutPress$Node" "traits" "I", Cond.fieldLink RX4 45 "LayoutPress$Node" "indents" "Z", Cond.fieldLink RX4 104 "LayoutPress$Kind" "BROKEN" "LLayoutPress$Kind;", Cond.fieldLink RX4 107 "LayoutPress$Kind" "PAIR" "LLayoutPress$Kind;", Cond.fieldLink RX4 29 "LayoutPress$Node" "flatWidth" "I", Cond.fieldLink RX4 38 "LayoutPress$Node" "barred" "Z", Cond.fieldLink RX4 91 "LayoutPress$Node" "mostWays" "I", Cond.fieldLink RX4 85 "LayoutPress$Node" "mostFlatWays" "I", Cond.fieldLink RX4 55 "LayoutPress$Node" "layoutCount" "I"]
def wsL_nest_r3 : List Cond := [Cond.fieldLink RX4 58 "LayoutPress$Node" "flatLayoutCount" "I", Cond.fieldLink RX4 110 "LayoutPress$Kind" "CHOICE" "LLayoutPress$Kind;", Cond.methodLink RX4 94 Lib.Math.max.name, Cond.static Lib.Math.max.name, Cond.initialized "java/lang/Math", Cond.code Lib.Math.max.name Lib.Math.max.code 2 (some .int), Cond.methodLink RX4 100 yX4_atMostCounted, Cond.static yX4_atMostCounted, Cond.code yX4_atMostCounted cX4_atMostCounted 2 (some .int), Cond.constantLong RX4 113 (1000000), Cond.constant RX4 115 (1000000), Cond.methodLink RX4 65 yX4_measureOne, Cond.instanceMethod yX4_measureOne, Cond.selects RX4 yX4_measureOne yX4_measureOne, Cond.code yX4_measureOne cX4_measureOne 3 none, Cond.fieldLink RX4 72 "LayoutPress$Kind" "FLAT" "LLayoutPress$Kind;", Cond.fieldLink RX4 75 "LayoutPress$Kind" "CELL" "LLayoutPress$Kind;", Cond.fieldLink RX4 78 "LayoutPress$Kind" "ALIGN" "LLayoutPress$Kind;", Cond.fieldLink RX4 88 "LayoutPress$Kind" "GROUP" "LLayoutPress$Kind;", Cond.methodLink RX10 69 yX10_add, Cond.instanceMethod yX10_add, Cond.selects RX10 yX10_add yX10_add, Cond.code yX10_add cX10_add 2 (some .int), Cond.classLink RX10 126 "java/lang/IllegalStateException"]
def wsL_nest_r4 : List Cond := [Cond.initialized "java/lang/IllegalStateException", Cond.methodLink RX10 252 yX4_take, Cond.instanceMethod yX4_take, Cond.selects RX4 yX4_take yX4_take, Cond.code yX4_take cX4_take 2 none, Cond.fieldLink RX4 116 "LayoutPress$Node" "number" "I", Cond.methodLink RX4 119 yX4_bit, Cond.instanceMethod yX4_bit, Cond.selects RX4 yX4_bit yX4_bit, Cond.code yX4_bit cX4_bit 1 (some .long)]
def wsL_nest : List Cond := .codeWith yL_nest cL_nest 5 (some .int) [(0, 10, 13, 37), (0, 10, 17, 13), (0, 10, 21, 15)] :: ((wsL_nest_r1 ++ (wsL_nest_r2 ++ (wsL_nest_r3 ++ wsL_nest_r4))) ++ wsX40 ++ wsX100 ++ (vx_atM "java/lang/ArrayIndexOutOfBoundsException" ["java/lang/IndexOutOfBoundsException", "java/lang/RuntimeException", "java/lang/Exception"]).filter goodWord ++ (vx_atS RX10 212 "java/lang/IndexOutOfBoundsException" ["java/lang/RuntimeException", "java/lang/Exception"]).filter goodWord ++ (vx_atS RX10 238 "java/lang/IllegalArgumentException" ["java/lang/RuntimeException", "java/lang/Exception"]).filter goodWord ++ (vx_atS RX10 130 "java/lang/IllegalStateException" ["java/lang/RuntimeException", "java/lang/Exception"]).filter goodWord)
def wsL_align_r1 : List Cond := [Cond.classLink RL 37 "java/lang/IndexOutOfBoundsException", Cond.methodLink RL 42 yX10_align, Cond.instanceMethod yX10_align, Cond.selects RX10 yX10_align yX10_align, Cond.initialized RX10, Cond.code yX10_align cX10_align 2 (some .int), Cond.classLink RX10 9 RX4, Cond.instantiable RX4 15, Cond.initialized RX4, Cond.fieldLink RX10 101 "LayoutPress$Kind" "ALIGN" "LLayoutPress$Kind;", Cond.methodLink RX10 91 yX10_nodeOf, Cond.instanceMethod yX10_nodeOf, Cond.selects RX10 yX10_nodeOf yX10_nodeOf, Cond.code yX10_nodeOf cX10_nodeOf 3 (some (.object "LayoutPress$Node")), Cond.classLink RX10 208 "java/lang/IndexOutOfBoundsException", Cond.initialized "java/lang/IndexOutOfBoundsException", Cond.fieldLink RX10 15 "LayoutPress" "madeCount" "I", Cond.fieldLink RX10 11 "LayoutPress" "made" "[LLayoutPress$Node;", Cond.methodLink RX10 95 yX4_init_, Cond.instanceMethod yX4_init_, Cond.code yX4_init_ cX4_init_ 5 none, Cond.methodLink RX4 3 objectInit, Cond.instanceMethod objectInit, Cond.code objectInit ⟨#[0xb1]⟩ 1 none]
def wsL_align_r2 : List Cond := [Cond.fieldLink RX4 9 "LayoutPress$Node" "kind" "LLayoutPress$Kind;", Cond.fieldLink RX4 15 "LayoutPress$Node" "value" "I", Cond.fieldLink RX4 19 "LayoutPress$Node" "first" "LLayoutPress$Node;", Cond.fieldLink RX4 23 "LayoutPress$Node" "second" "LLayoutPress$Node;", Cond.methodLink RX4 61 yX4_measureTwo, Cond.instanceMethod yX4_measureTwo, Cond.selects RX4 yX4_measureTwo yX4_measureTwo, Cond.code yX4_measureTwo cX4_measureTwo 3 none, Cond.fieldLink RX4 26 "LayoutPress$Node" "leaves" "I", Cond.fieldLink RX4 81 "LayoutPress$Node" "within" "J", Cond.fieldLink RX4 52 "LayoutPress$Node" "traits" "I", Cond.fieldLink RX4 45 "LayoutPress$Node" "indents" "Z", Cond.fieldLink RX4 104 "LayoutPress$Kind" "BROKEN" "LLayoutPress$Kind;", Cond.fieldLink RX4 107 "LayoutPress$Kind" "PAIR" "LLayoutPress$Kind;", Cond.fieldLink RX4 29 "LayoutPress$Node" "flatWidth" "I", Cond.fieldLink RX4 38 "LayoutPress$Node" "barred" "Z", Cond.fieldLink RX4 91 "LayoutPress$Node" "mostWays" "I", Cond.fieldLink RX4 85 "LayoutPress$Node" "mostFlatWays" "I", Cond.fieldLink RX4 55 "LayoutPress$Node" "layoutCount" "I", Cond.fieldLink RX4 58 "LayoutPress$Node" "flatLayoutCount" "I", Cond.fieldLink RX4 110 "LayoutPress$Kind" "CHOICE" "LLayoutPress$Kind;", Cond.methodLink RX4 94 Lib.Math.max.name, Cond.static Lib.Math.max.name, Cond.initialized "java/lang/Math"]
def wsL_align_r3 : List Cond := [Cond.code Lib.Math.max.name Lib.Math.max.code 2 (some .int), Cond.methodLink RX4 100 yX4_atMostCounted, Cond.static yX4_atMostCounted, Cond.code yX4_atMostCounted cX4_atMostCounted 2 (some .int), Cond.constantLong RX4 113 (1000000), Cond.constant RX4 115 (1000000), Cond.methodLink RX4 65 yX4_measureOne, Cond.instanceMethod yX4_measureOne, Cond.selects RX4 yX4_measureOne yX4_measureOne, Cond.code yX4_measureOne cX4_measureOne 3 none, Cond.fieldLink RX4 72 "LayoutPress$Kind" "FLAT" "LLayoutPress$Kind;", Cond.fieldLink RX4 75 "LayoutPress$Kind" "CELL" "LLayoutPress$Kind;", Cond.fieldLink RX4 78 "LayoutPress$Kind" "ALIGN" "LLayoutPress$Kind;", Cond.fieldLink RX4 88 "LayoutPress$Kind" "GROUP" "LLayoutPress$Kind;", Cond.methodLink RX10 69 yX10_add, Cond.instanceMethod yX10_add, Cond.selects RX10 yX10_add yX10_add, Cond.code yX10_add cX10_add 2 (some .int), Cond.classLink RX10 126 "java/lang/IllegalStateException", Cond.initialized "java/lang/IllegalStateException", Cond.methodLink RX10 252 yX4_take, Cond.instanceMethod yX4_take, Cond.selects RX4 yX4_take yX4_take, Cond.code yX4_take cX4_take 2 none]
def wsL_align_r4 : List Cond := [Cond.fieldLink RX4 116 "LayoutPress$Node" "number" "I", Cond.methodLink RX4 119 yX4_bit, Cond.instanceMethod yX4_bit, Cond.selects RX4 yX4_bit yX4_bit, Cond.code yX4_bit cX4_bit 1 (some .long)]
def wsL_align : List Cond := .codeWith yL_align cL_align 4 (some .int) [(0, 9, 12, 37), (0, 9, 15, 15)] :: ((wsL_align_r1 ++ (wsL_align_r2 ++ (wsL_align_r3 ++ wsL_align_r4))) ++ wsX40 ++ wsX100 ++ (vx_atM "java/lang/ArrayIndexOutOfBoundsException" ["java/lang/IndexOutOfBoundsException", "java/lang/RuntimeException", "java/lang/Exception"]).filter goodWord ++ (vx_atS RX10 212 "java/lang/IndexOutOfBoundsException" ["java/lang/RuntimeException", "java/lang/Exception"]).filter goodWord ++ (vx_atS RX10 130 "java/lang/IllegalStateException" ["java/lang/RuntimeException", "java/lang/Exception"]).filter goodWord)
def wsL_group_r1 : List Cond := [Cond.classLink RL 37 "java/lang/IndexOutOfBoundsException", Cond.methodLink RL 45 yX10_group, Cond.instanceMethod yX10_group, Cond.selects RX10 yX10_group yX10_group, Cond.initialized RX10, Cond.code yX10_group cX10_group 2 (some .int), Cond.classLink RX10 9 RX4, Cond.instantiable RX4 15, Cond.initialized RX4, Cond.fieldLink RX10 104 "LayoutPress$Kind" "GROUP" "LLayoutPress$Kind;", Cond.methodLink RX10 91 yX10_nodeOf, Cond.instanceMethod yX10_nodeOf, Cond.selects RX10 yX10_nodeOf yX10_nodeOf, Cond.code yX10_nodeOf cX10_nodeOf 3 (some (.object "LayoutPress$Node")), Cond.classLink RX10 208 "java/lang/IndexOutOfBoundsException", Cond.initialized "java/lang/IndexOutOfBoundsException", Cond.fieldLink RX10 15 "LayoutPress" "madeCount" "I", Cond.fieldLink RX10 11 "LayoutPress" "made" "[LLayoutPress$Node;", Cond.methodLink RX10 95 yX4_init_, Cond.instanceMethod yX4_init_, Cond.code yX4_init_ cX4_init_ 5 none, Cond.methodLink RX4 3 objectInit, Cond.instanceMethod objectInit, Cond.code objectInit ⟨#[0xb1]⟩ 1 none]
def wsL_group_r2 : List Cond := [Cond.fieldLink RX4 9 "LayoutPress$Node" "kind" "LLayoutPress$Kind;", Cond.fieldLink RX4 15 "LayoutPress$Node" "value" "I", Cond.fieldLink RX4 19 "LayoutPress$Node" "first" "LLayoutPress$Node;", Cond.fieldLink RX4 23 "LayoutPress$Node" "second" "LLayoutPress$Node;", Cond.methodLink RX4 61 yX4_measureTwo, Cond.instanceMethod yX4_measureTwo, Cond.selects RX4 yX4_measureTwo yX4_measureTwo, Cond.code yX4_measureTwo cX4_measureTwo 3 none, Cond.fieldLink RX4 26 "LayoutPress$Node" "leaves" "I", Cond.fieldLink RX4 81 "LayoutPress$Node" "within" "J", Cond.fieldLink RX4 52 "LayoutPress$Node" "traits" "I", Cond.fieldLink RX4 45 "LayoutPress$Node" "indents" "Z", Cond.fieldLink RX4 104 "LayoutPress$Kind" "BROKEN" "LLayoutPress$Kind;", Cond.fieldLink RX4 107 "LayoutPress$Kind" "PAIR" "LLayoutPress$Kind;", Cond.fieldLink RX4 29 "LayoutPress$Node" "flatWidth" "I", Cond.fieldLink RX4 38 "LayoutPress$Node" "barred" "Z", Cond.fieldLink RX4 91 "LayoutPress$Node" "mostWays" "I", Cond.fieldLink RX4 85 "LayoutPress$Node" "mostFlatWays" "I", Cond.fieldLink RX4 55 "LayoutPress$Node" "layoutCount" "I", Cond.fieldLink RX4 58 "LayoutPress$Node" "flatLayoutCount" "I", Cond.fieldLink RX4 110 "LayoutPress$Kind" "CHOICE" "LLayoutPress$Kind;", Cond.methodLink RX4 94 Lib.Math.max.name, Cond.static Lib.Math.max.name, Cond.initialized "java/lang/Math"]
def wsL_group_r3 : List Cond := [Cond.code Lib.Math.max.name Lib.Math.max.code 2 (some .int), Cond.methodLink RX4 100 yX4_atMostCounted, Cond.static yX4_atMostCounted, Cond.code yX4_atMostCounted cX4_atMostCounted 2 (some .int), Cond.constantLong RX4 113 (1000000), Cond.constant RX4 115 (1000000), Cond.methodLink RX4 65 yX4_measureOne, Cond.instanceMethod yX4_measureOne, Cond.selects RX4 yX4_measureOne yX4_measureOne, Cond.code yX4_measureOne cX4_measureOne 3 none, Cond.fieldLink RX4 72 "LayoutPress$Kind" "FLAT" "LLayoutPress$Kind;", Cond.fieldLink RX4 75 "LayoutPress$Kind" "CELL" "LLayoutPress$Kind;", Cond.fieldLink RX4 78 "LayoutPress$Kind" "ALIGN" "LLayoutPress$Kind;", Cond.fieldLink RX4 88 "LayoutPress$Kind" "GROUP" "LLayoutPress$Kind;", Cond.methodLink RX10 69 yX10_add, Cond.instanceMethod yX10_add, Cond.selects RX10 yX10_add yX10_add, Cond.code yX10_add cX10_add 2 (some .int), Cond.classLink RX10 126 "java/lang/IllegalStateException", Cond.initialized "java/lang/IllegalStateException", Cond.methodLink RX10 252 yX4_take, Cond.instanceMethod yX4_take, Cond.selects RX4 yX4_take yX4_take, Cond.code yX4_take cX4_take 2 none]
def wsL_group_r4 : List Cond := [Cond.fieldLink RX4 116 "LayoutPress$Node" "number" "I", Cond.methodLink RX4 119 yX4_bit, Cond.instanceMethod yX4_bit, Cond.selects RX4 yX4_bit yX4_bit, Cond.code yX4_bit cX4_bit 1 (some .long)]
def wsL_group : List Cond := .codeWith yL_group cL_group 4 (some .int) [(0, 9, 12, 37), (0, 9, 15, 15)] :: ((wsL_group_r1 ++ (wsL_group_r2 ++ (wsL_group_r3 ++ wsL_group_r4))) ++ wsX40 ++ wsX100 ++ (vx_atM "java/lang/ArrayIndexOutOfBoundsException" ["java/lang/IndexOutOfBoundsException", "java/lang/RuntimeException", "java/lang/Exception"]).filter goodWord ++ (vx_atS RX10 212 "java/lang/IndexOutOfBoundsException" ["java/lang/RuntimeException", "java/lang/Exception"]).filter goodWord ++ (vx_atS RX10 130 "java/lang/IllegalStateException" ["java/lang/RuntimeException", "java/lang/Exception"]).filter goodWord)
def wsL_choice_r1 : List Cond := [Cond.classLink RL 37 "java/lang/IndexOutOfBoundsException", Cond.methodLink RL 48 yX10_choice, Cond.instanceMethod yX10_choice, Cond.selects RX10 yX10_choice yX10_choice, Cond.initialized RX10, Cond.code yX10_choice cX10_choice 3 (some .int), Cond.classLink RX10 9 RX4, Cond.instantiable RX4 15, Cond.initialized RX4, Cond.fieldLink RX10 107 "LayoutPress$Kind" "CHOICE" "LLayoutPress$Kind;", Cond.methodLink RX10 91 yX10_nodeOf, Cond.instanceMethod yX10_nodeOf, Cond.selects RX10 yX10_nodeOf yX10_nodeOf, Cond.code yX10_nodeOf cX10_nodeOf 3 (some (.object "LayoutPress$Node")), Cond.classLink RX10 208 "java/lang/IndexOutOfBoundsException", Cond.initialized "java/lang/IndexOutOfBoundsException", Cond.fieldLink RX10 15 "LayoutPress" "madeCount" "I", Cond.fieldLink RX10 11 "LayoutPress" "made" "[LLayoutPress$Node;", Cond.methodLink RX10 95 yX4_init_, Cond.instanceMethod yX4_init_, Cond.code yX4_init_ cX4_init_ 5 none, Cond.methodLink RX4 3 objectInit, Cond.instanceMethod objectInit, Cond.code objectInit ⟨#[0xb1]⟩ 1 none]
def wsL_choice_r2 : List Cond := [Cond.fieldLink RX4 9 "LayoutPress$Node" "kind" "LLayoutPress$Kind;", Cond.fieldLink RX4 15 "LayoutPress$Node" "value" "I", Cond.fieldLink RX4 19 "LayoutPress$Node" "first" "LLayoutPress$Node;", Cond.fieldLink RX4 23 "LayoutPress$Node" "second" "LLayoutPress$Node;", Cond.methodLink RX4 61 yX4_measureTwo, Cond.instanceMethod yX4_measureTwo, Cond.selects RX4 yX4_measureTwo yX4_measureTwo, Cond.code yX4_measureTwo cX4_measureTwo 3 none, Cond.fieldLink RX4 26 "LayoutPress$Node" "leaves" "I", Cond.fieldLink RX4 81 "LayoutPress$Node" "within" "J", Cond.fieldLink RX4 52 "LayoutPress$Node" "traits" "I", Cond.fieldLink RX4 45 "LayoutPress$Node" "indents" "Z", Cond.fieldLink RX4 104 "LayoutPress$Kind" "BROKEN" "LLayoutPress$Kind;", Cond.fieldLink RX4 107 "LayoutPress$Kind" "PAIR" "LLayoutPress$Kind;", Cond.fieldLink RX4 29 "LayoutPress$Node" "flatWidth" "I", Cond.fieldLink RX4 38 "LayoutPress$Node" "barred" "Z", Cond.fieldLink RX4 91 "LayoutPress$Node" "mostWays" "I", Cond.fieldLink RX4 85 "LayoutPress$Node" "mostFlatWays" "I", Cond.fieldLink RX4 55 "LayoutPress$Node" "layoutCount" "I", Cond.fieldLink RX4 58 "LayoutPress$Node" "flatLayoutCount" "I", Cond.fieldLink RX4 110 "LayoutPress$Kind" "CHOICE" "LLayoutPress$Kind;", Cond.methodLink RX4 94 Lib.Math.max.name, Cond.static Lib.Math.max.name, Cond.initialized "java/lang/Math"]
def wsL_choice_r3 : List Cond := [Cond.code Lib.Math.max.name Lib.Math.max.code 2 (some .int), Cond.methodLink RX4 100 yX4_atMostCounted, Cond.static yX4_atMostCounted, Cond.code yX4_atMostCounted cX4_atMostCounted 2 (some .int), Cond.constantLong RX4 113 (1000000), Cond.constant RX4 115 (1000000), Cond.methodLink RX4 65 yX4_measureOne, Cond.instanceMethod yX4_measureOne, Cond.selects RX4 yX4_measureOne yX4_measureOne, Cond.code yX4_measureOne cX4_measureOne 3 none, Cond.fieldLink RX4 72 "LayoutPress$Kind" "FLAT" "LLayoutPress$Kind;", Cond.fieldLink RX4 75 "LayoutPress$Kind" "CELL" "LLayoutPress$Kind;", Cond.fieldLink RX4 78 "LayoutPress$Kind" "ALIGN" "LLayoutPress$Kind;", Cond.fieldLink RX4 88 "LayoutPress$Kind" "GROUP" "LLayoutPress$Kind;", Cond.methodLink RX10 69 yX10_add, Cond.instanceMethod yX10_add, Cond.selects RX10 yX10_add yX10_add, Cond.code yX10_add cX10_add 2 (some .int), Cond.classLink RX10 126 "java/lang/IllegalStateException", Cond.initialized "java/lang/IllegalStateException", Cond.methodLink RX10 252 yX4_take, Cond.instanceMethod yX4_take, Cond.selects RX4 yX4_take yX4_take, Cond.code yX4_take cX4_take 2 none]
def wsL_choice_r4 : List Cond := [Cond.fieldLink RX4 116 "LayoutPress$Node" "number" "I", Cond.methodLink RX4 119 yX4_bit, Cond.instanceMethod yX4_bit, Cond.selects RX4 yX4_bit yX4_bit, Cond.code yX4_bit cX4_bit 1 (some .long)]
def wsL_choice : List Cond := .codeWith yL_choice cL_choice 5 (some .int) [(0, 10, 13, 37), (0, 10, 17, 15)] :: ((wsL_choice_r1 ++ (wsL_choice_r2 ++ (wsL_choice_r3 ++ wsL_choice_r4))) ++ wsX40 ++ wsX100 ++ (vx_atM "java/lang/ArrayIndexOutOfBoundsException" ["java/lang/IndexOutOfBoundsException", "java/lang/RuntimeException", "java/lang/Exception"]).filter goodWord ++ (vx_atS RX10 212 "java/lang/IndexOutOfBoundsException" ["java/lang/RuntimeException", "java/lang/Exception"]).filter goodWord ++ (vx_atS RX10 130 "java/lang/IllegalStateException" ["java/lang/RuntimeException", "java/lang/Exception"]).filter goodWord)
def wsL_flat_r1 : List Cond := [Cond.classLink RL 37 "java/lang/IndexOutOfBoundsException", Cond.methodLink RL 51 yX10_flat, Cond.instanceMethod yX10_flat, Cond.selects RX10 yX10_flat yX10_flat, Cond.initialized RX10, Cond.code yX10_flat cX10_flat 2 (some .int), Cond.classLink RX10 9 RX4, Cond.instantiable RX4 15, Cond.initialized RX4, Cond.fieldLink RX10 110 "LayoutPress$Kind" "FLAT" "LLayoutPress$Kind;", Cond.methodLink RX10 91 yX10_nodeOf, Cond.instanceMethod yX10_nodeOf, Cond.selects RX10 yX10_nodeOf yX10_nodeOf, Cond.code yX10_nodeOf cX10_nodeOf 3 (some (.object "LayoutPress$Node")), Cond.classLink RX10 208 "java/lang/IndexOutOfBoundsException", Cond.initialized "java/lang/IndexOutOfBoundsException", Cond.fieldLink RX10 15 "LayoutPress" "madeCount" "I", Cond.fieldLink RX10 11 "LayoutPress" "made" "[LLayoutPress$Node;", Cond.methodLink RX10 95 yX4_init_, Cond.instanceMethod yX4_init_, Cond.code yX4_init_ cX4_init_ 5 none, Cond.methodLink RX4 3 objectInit, Cond.instanceMethod objectInit, Cond.code objectInit ⟨#[0xb1]⟩ 1 none]
def wsL_flat_r2 : List Cond := [Cond.fieldLink RX4 9 "LayoutPress$Node" "kind" "LLayoutPress$Kind;", Cond.fieldLink RX4 15 "LayoutPress$Node" "value" "I", Cond.fieldLink RX4 19 "LayoutPress$Node" "first" "LLayoutPress$Node;", Cond.fieldLink RX4 23 "LayoutPress$Node" "second" "LLayoutPress$Node;", Cond.methodLink RX4 61 yX4_measureTwo, Cond.instanceMethod yX4_measureTwo, Cond.selects RX4 yX4_measureTwo yX4_measureTwo, Cond.code yX4_measureTwo cX4_measureTwo 3 none, Cond.fieldLink RX4 26 "LayoutPress$Node" "leaves" "I", Cond.fieldLink RX4 81 "LayoutPress$Node" "within" "J", Cond.fieldLink RX4 52 "LayoutPress$Node" "traits" "I", Cond.fieldLink RX4 45 "LayoutPress$Node" "indents" "Z", Cond.fieldLink RX4 104 "LayoutPress$Kind" "BROKEN" "LLayoutPress$Kind;", Cond.fieldLink RX4 107 "LayoutPress$Kind" "PAIR" "LLayoutPress$Kind;", Cond.fieldLink RX4 29 "LayoutPress$Node" "flatWidth" "I", Cond.fieldLink RX4 38 "LayoutPress$Node" "barred" "Z", Cond.fieldLink RX4 91 "LayoutPress$Node" "mostWays" "I", Cond.fieldLink RX4 85 "LayoutPress$Node" "mostFlatWays" "I", Cond.fieldLink RX4 55 "LayoutPress$Node" "layoutCount" "I", Cond.fieldLink RX4 58 "LayoutPress$Node" "flatLayoutCount" "I", Cond.fieldLink RX4 110 "LayoutPress$Kind" "CHOICE" "LLayoutPress$Kind;", Cond.methodLink RX4 94 Lib.Math.max.name, Cond.static Lib.Math.max.name, Cond.initialized "java/lang/Math"]
def wsL_flat_r3 : List Cond := [Cond.code Lib.Math.max.name Lib.Math.max.code 2 (some .int), Cond.methodLink RX4 100 yX4_atMostCounted, Cond.static yX4_atMostCounted, Cond.code yX4_atMostCounted cX4_atMostCounted 2 (some .int), Cond.constantLong RX4 113 (1000000), Cond.constant RX4 115 (1000000), Cond.methodLink RX4 65 yX4_measureOne, Cond.instanceMethod yX4_measureOne, Cond.selects RX4 yX4_measureOne yX4_measureOne, Cond.code yX4_measureOne cX4_measureOne 3 none, Cond.fieldLink RX4 72 "LayoutPress$Kind" "FLAT" "LLayoutPress$Kind;", Cond.fieldLink RX4 75 "LayoutPress$Kind" "CELL" "LLayoutPress$Kind;", Cond.fieldLink RX4 78 "LayoutPress$Kind" "ALIGN" "LLayoutPress$Kind;", Cond.fieldLink RX4 88 "LayoutPress$Kind" "GROUP" "LLayoutPress$Kind;", Cond.methodLink RX10 69 yX10_add, Cond.instanceMethod yX10_add, Cond.selects RX10 yX10_add yX10_add, Cond.code yX10_add cX10_add 2 (some .int), Cond.classLink RX10 126 "java/lang/IllegalStateException", Cond.initialized "java/lang/IllegalStateException", Cond.methodLink RX10 252 yX4_take, Cond.instanceMethod yX4_take, Cond.selects RX4 yX4_take yX4_take, Cond.code yX4_take cX4_take 2 none]
def wsL_flat_r4 : List Cond := [Cond.fieldLink RX4 116 "LayoutPress$Node" "number" "I", Cond.methodLink RX4 119 yX4_bit, Cond.instanceMethod yX4_bit, Cond.selects RX4 yX4_bit yX4_bit, Cond.code yX4_bit cX4_bit 1 (some .long)]
def wsL_flat : List Cond := .codeWith yL_flat cL_flat 4 (some .int) [(0, 9, 12, 37), (0, 9, 15, 15)] :: ((wsL_flat_r1 ++ (wsL_flat_r2 ++ (wsL_flat_r3 ++ wsL_flat_r4))) ++ wsX40 ++ wsX100 ++ (vx_atM "java/lang/ArrayIndexOutOfBoundsException" ["java/lang/IndexOutOfBoundsException", "java/lang/RuntimeException", "java/lang/Exception"]).filter goodWord ++ (vx_atS RX10 212 "java/lang/IndexOutOfBoundsException" ["java/lang/RuntimeException", "java/lang/Exception"]).filter goodWord ++ (vx_atS RX10 130 "java/lang/IllegalStateException" ["java/lang/RuntimeException", "java/lang/Exception"]).filter goodWord)
def wsL_broken_r1 : List Cond := [Cond.classLink RL 37 "java/lang/IndexOutOfBoundsException", Cond.methodLink RL 54 yX10_broken, Cond.instanceMethod yX10_broken, Cond.selects RX10 yX10_broken yX10_broken, Cond.initialized RX10, Cond.code yX10_broken cX10_broken 3 (some .int), Cond.classLink RX10 9 RX4, Cond.instantiable RX4 15, Cond.initialized RX4, Cond.fieldLink RX10 113 "LayoutPress$Kind" "BROKEN" "LLayoutPress$Kind;", Cond.methodLink RX10 91 yX10_nodeOf, Cond.instanceMethod yX10_nodeOf, Cond.selects RX10 yX10_nodeOf yX10_nodeOf, Cond.code yX10_nodeOf cX10_nodeOf 3 (some (.object "LayoutPress$Node")), Cond.classLink RX10 208 "java/lang/IndexOutOfBoundsException", Cond.initialized "java/lang/IndexOutOfBoundsException", Cond.fieldLink RX10 15 "LayoutPress" "madeCount" "I", Cond.fieldLink RX10 11 "LayoutPress" "made" "[LLayoutPress$Node;", Cond.methodLink RX10 95 yX4_init_, Cond.instanceMethod yX4_init_, Cond.code yX4_init_ cX4_init_ 5 none, Cond.methodLink RX4 3 objectInit, Cond.instanceMethod objectInit, Cond.code objectInit ⟨#[0xb1]⟩ 1 none]
def wsL_broken_r2 : List Cond := [Cond.fieldLink RX4 9 "LayoutPress$Node" "kind" "LLayoutPress$Kind;", Cond.fieldLink RX4 15 "LayoutPress$Node" "value" "I", Cond.fieldLink RX4 19 "LayoutPress$Node" "first" "LLayoutPress$Node;", Cond.fieldLink RX4 23 "LayoutPress$Node" "second" "LLayoutPress$Node;", Cond.methodLink RX4 61 yX4_measureTwo, Cond.instanceMethod yX4_measureTwo, Cond.selects RX4 yX4_measureTwo yX4_measureTwo, Cond.code yX4_measureTwo cX4_measureTwo 3 none, Cond.fieldLink RX4 26 "LayoutPress$Node" "leaves" "I", Cond.fieldLink RX4 81 "LayoutPress$Node" "within" "J", Cond.fieldLink RX4 52 "LayoutPress$Node" "traits" "I", Cond.fieldLink RX4 45 "LayoutPress$Node" "indents" "Z", Cond.fieldLink RX4 104 "LayoutPress$Kind" "BROKEN" "LLayoutPress$Kind;", Cond.fieldLink RX4 107 "LayoutPress$Kind" "PAIR" "LLayoutPress$Kind;", Cond.fieldLink RX4 29 "LayoutPress$Node" "flatWidth" "I", Cond.fieldLink RX4 38 "LayoutPress$Node" "barred" "Z", Cond.fieldLink RX4 91 "LayoutPress$Node" "mostWays" "I", Cond.fieldLink RX4 85 "LayoutPress$Node" "mostFlatWays" "I", Cond.fieldLink RX4 55 "LayoutPress$Node" "layoutCount" "I", Cond.fieldLink RX4 58 "LayoutPress$Node" "flatLayoutCount" "I", Cond.fieldLink RX4 110 "LayoutPress$Kind" "CHOICE" "LLayoutPress$Kind;", Cond.methodLink RX4 94 Lib.Math.max.name, Cond.static Lib.Math.max.name, Cond.initialized "java/lang/Math"]
def wsL_broken_r3 : List Cond := [Cond.code Lib.Math.max.name Lib.Math.max.code 2 (some .int), Cond.methodLink RX4 100 yX4_atMostCounted, Cond.static yX4_atMostCounted, Cond.code yX4_atMostCounted cX4_atMostCounted 2 (some .int), Cond.constantLong RX4 113 (1000000), Cond.constant RX4 115 (1000000), Cond.methodLink RX4 65 yX4_measureOne, Cond.instanceMethod yX4_measureOne, Cond.selects RX4 yX4_measureOne yX4_measureOne, Cond.code yX4_measureOne cX4_measureOne 3 none, Cond.fieldLink RX4 72 "LayoutPress$Kind" "FLAT" "LLayoutPress$Kind;", Cond.fieldLink RX4 75 "LayoutPress$Kind" "CELL" "LLayoutPress$Kind;", Cond.fieldLink RX4 78 "LayoutPress$Kind" "ALIGN" "LLayoutPress$Kind;", Cond.fieldLink RX4 88 "LayoutPress$Kind" "GROUP" "LLayoutPress$Kind;", Cond.methodLink RX10 69 yX10_add, Cond.instanceMethod yX10_add, Cond.selects RX10 yX10_add yX10_add, Cond.code yX10_add cX10_add 2 (some .int), Cond.classLink RX10 126 "java/lang/IllegalStateException", Cond.initialized "java/lang/IllegalStateException", Cond.methodLink RX10 252 yX4_take, Cond.instanceMethod yX4_take, Cond.selects RX4 yX4_take yX4_take, Cond.code yX4_take cX4_take 2 none]
def wsL_broken_r4 : List Cond := [Cond.fieldLink RX4 116 "LayoutPress$Node" "number" "I", Cond.methodLink RX4 119 yX4_bit, Cond.instanceMethod yX4_bit, Cond.selects RX4 yX4_bit yX4_bit, Cond.code yX4_bit cX4_bit 1 (some .long)]
def wsL_broken : List Cond := .codeWith yL_broken cL_broken 5 (some .int) [(0, 10, 13, 37), (0, 10, 17, 15)] :: ((wsL_broken_r1 ++ (wsL_broken_r2 ++ (wsL_broken_r3 ++ wsL_broken_r4))) ++ wsX40 ++ wsX100 ++ (vx_atM "java/lang/ArrayIndexOutOfBoundsException" ["java/lang/IndexOutOfBoundsException", "java/lang/RuntimeException", "java/lang/Exception"]).filter goodWord ++ (vx_atS RX10 212 "java/lang/IndexOutOfBoundsException" ["java/lang/RuntimeException", "java/lang/Exception"]).filter goodWord ++ (vx_atS RX10 130 "java/lang/IllegalStateException" ["java/lang/RuntimeException", "java/lang/Exception"]).filter goodWord)
def wsL_price_r1 : List Cond := [Cond.classLink RL 37 "java/lang/IndexOutOfBoundsException", Cond.methodLink RL 57 yX10_price, Cond.instanceMethod yX10_price, Cond.selects RX10 yX10_price yX10_price, Cond.initialized RX10, Cond.code yX10_price cX10_price 4 (some .int), Cond.classLink RX10 9 RX4, Cond.instantiable RX4 15, Cond.initialized RX4, Cond.fieldLink RX10 116 "LayoutPress$Kind" "PRICE" "LLayoutPress$Kind;", Cond.methodLink RX10 91 yX10_nodeOf, Cond.instanceMethod yX10_nodeOf, Cond.selects RX10 yX10_nodeOf yX10_nodeOf, Cond.code yX10_nodeOf cX10_nodeOf 3 (some (.object "LayoutPress$Node")), Cond.classLink RX10 208 "java/lang/IndexOutOfBoundsException", Cond.initialized "java/lang/IndexOutOfBoundsException", Cond.fieldLink RX10 15 "LayoutPress" "madeCount" "I", Cond.fieldLink RX10 11 "LayoutPress" "made" "[LLayoutPress$Node;", Cond.methodLink RX10 56 yX10_checkRange, Cond.static yX10_checkRange, Cond.code yX10_checkRange cX10_checkRange 3 none, Cond.classLink RX10 234 "java/lang/IllegalArgumentException", Cond.initialized "java/lang/IllegalArgumentException", Cond.methodLink RX10 95 yX4_init_]
def wsL_price_r2 : List Cond := [Cond.instanceMethod yX4_init_, Cond.code yX4_init_ cX4_init_ 5 none, Cond.methodLink RX4 3 objectInit, Cond.instanceMethod objectInit, Cond.code objectInit ⟨#[0xb1]⟩ 1 none, Cond.fieldLink RX4 9 "LayoutPress$Node" "kind" "LLayoutPress$Kind;", Cond.fieldLink RX4 15 "LayoutPress$Node" "value" "I", Cond.fieldLink RX4 19 "LayoutPress$Node" "first" "LLayoutPress$Node;", Cond.fieldLink RX4 23 "LayoutPress$Node" "second" "LLayoutPress$Node;", Cond.methodLink RX4 61 yX4_measureTwo, Cond.instanceMethod yX4_measureTwo, Cond.selects RX4 yX4_measureTwo yX4_measureTwo, Cond.code yX4_measureTwo cX4_measureTwo 3 none, Cond.fieldLink RX4 26 "LayoutPress$Node" "leaves" "I", Cond.fieldLink RX4 81 "LayoutPress$Node" "within" "J", Cond.fieldLink RX4 52 "LayoutPress$Node" "traits" "I", Cond.fieldLink RX4 45 "LayoutPress$Node" "indents" "Z", Cond.fieldLink RX4 104 "LayoutPress$Kind" "BROKEN" "LLayoutPress$Kind;", Cond.fieldLink RX4 107 "LayoutPress$Kind" "PAIR" "LLayoutPress$Kind;", Cond.fieldLink RX4 29 "LayoutPress$Node" "flatWidth" "I", Cond.fieldLink RX4 38 "LayoutPress$Node" "barred" "Z", Cond.fieldLink RX4 91 "LayoutPress$Node" "mostWays" "I", Cond.fieldLink RX4 85 "LayoutPress$Node" "mostFlatWays" "I", Cond.fieldLink RX4 55 "LayoutPress$Node" "layoutCount" "I"]
def wsL_price_r3 : List Cond := [Cond.fieldLink RX4 58 "LayoutPress$Node" "flatLayoutCount" "I", Cond.fieldLink RX4 110 "LayoutPress$Kind" "CHOICE" "LLayoutPress$Kind;", Cond.methodLink RX4 94 Lib.Math.max.name, Cond.static Lib.Math.max.name, Cond.initialized "java/lang/Math", Cond.code Lib.Math.max.name Lib.Math.max.code 2 (some .int), Cond.methodLink RX4 100 yX4_atMostCounted, Cond.static yX4_atMostCounted, Cond.code yX4_atMostCounted cX4_atMostCounted 2 (some .int), Cond.constantLong RX4 113 (1000000), Cond.constant RX4 115 (1000000), Cond.methodLink RX4 65 yX4_measureOne, Cond.instanceMethod yX4_measureOne, Cond.selects RX4 yX4_measureOne yX4_measureOne, Cond.code yX4_measureOne cX4_measureOne 3 none, Cond.fieldLink RX4 72 "LayoutPress$Kind" "FLAT" "LLayoutPress$Kind;", Cond.fieldLink RX4 75 "LayoutPress$Kind" "CELL" "LLayoutPress$Kind;", Cond.fieldLink RX4 78 "LayoutPress$Kind" "ALIGN" "LLayoutPress$Kind;", Cond.fieldLink RX4 88 "LayoutPress$Kind" "GROUP" "LLayoutPress$Kind;", Cond.methodLink RX10 69 yX10_add, Cond.instanceMethod yX10_add, Cond.selects RX10 yX10_add yX10_add, Cond.code yX10_add cX10_add 2 (some .int), Cond.classLink RX10 126 "java/lang/IllegalStateException"]
def wsL_price_r4 : List Cond := [Cond.initialized "java/lang/IllegalStateException", Cond.methodLink RX10 252 yX4_take, Cond.instanceMethod yX4_take, Cond.selects RX4 yX4_take yX4_take, Cond.code yX4_take cX4_take 2 none, Cond.fieldLink RX4 116 "LayoutPress$Node" "number" "I", Cond.methodLink RX4 119 yX4_bit, Cond.instanceMethod yX4_bit, Cond.selects RX4 yX4_bit yX4_bit, Cond.code yX4_bit cX4_bit 1 (some .long)]
def wsL_price : List Cond := .codeWith yL_price cL_price 5 (some .int) [(0, 10, 13, 37), (0, 10, 17, 13), (0, 10, 21, 15)] :: ((wsL_price_r1 ++ (wsL_price_r2 ++ (wsL_price_r3 ++ wsL_price_r4))) ++ wsX40 ++ wsX100 ++ (vx_atM "java/lang/ArrayIndexOutOfBoundsException" ["java/lang/IndexOutOfBoundsException", "java/lang/RuntimeException", "java/lang/Exception"]).filter goodWord ++ (vx_atS RX10 212 "java/lang/IndexOutOfBoundsException" ["java/lang/RuntimeException", "java/lang/Exception"]).filter goodWord ++ (vx_atS RX10 238 "java/lang/IllegalArgumentException" ["java/lang/RuntimeException", "java/lang/Exception"]).filter goodWord ++ (vx_atS RX10 130 "java/lang/IllegalStateException" ["java/lang/RuntimeException", "java/lang/Exception"]).filter goodWord)
def wsL_keep_r1 : List Cond := [Cond.classLink RL 37 "java/lang/IndexOutOfBoundsException", Cond.methodLink RL 60 yX10_keep, Cond.instanceMethod yX10_keep, Cond.selects RX10 yX10_keep yX10_keep, Cond.initialized RX10, Cond.code yX10_keep cX10_keep 4 (some .int), Cond.classLink RX10 9 RX4, Cond.instantiable RX4 15, Cond.initialized RX4, Cond.fieldLink RX10 119 "LayoutPress$Kind" "KEEP" "LLayoutPress$Kind;", Cond.methodLink RX10 91 yX10_nodeOf, Cond.instanceMethod yX10_nodeOf, Cond.selects RX10 yX10_nodeOf yX10_nodeOf, Cond.code yX10_nodeOf cX10_nodeOf 3 (some (.object "LayoutPress$Node")), Cond.classLink RX10 208 "java/lang/IndexOutOfBoundsException", Cond.initialized "java/lang/IndexOutOfBoundsException", Cond.fieldLink RX10 15 "LayoutPress" "madeCount" "I", Cond.fieldLink RX10 11 "LayoutPress" "made" "[LLayoutPress$Node;", Cond.methodLink RX10 56 yX10_checkRange, Cond.static yX10_checkRange, Cond.code yX10_checkRange cX10_checkRange 3 none, Cond.classLink RX10 234 "java/lang/IllegalArgumentException", Cond.initialized "java/lang/IllegalArgumentException", Cond.methodLink RX10 95 yX4_init_]
def wsL_keep_r2 : List Cond := [Cond.instanceMethod yX4_init_, Cond.code yX4_init_ cX4_init_ 5 none, Cond.methodLink RX4 3 objectInit, Cond.instanceMethod objectInit, Cond.code objectInit ⟨#[0xb1]⟩ 1 none, Cond.fieldLink RX4 9 "LayoutPress$Node" "kind" "LLayoutPress$Kind;", Cond.fieldLink RX4 15 "LayoutPress$Node" "value" "I", Cond.fieldLink RX4 19 "LayoutPress$Node" "first" "LLayoutPress$Node;", Cond.fieldLink RX4 23 "LayoutPress$Node" "second" "LLayoutPress$Node;", Cond.methodLink RX4 61 yX4_measureTwo, Cond.instanceMethod yX4_measureTwo, Cond.selects RX4 yX4_measureTwo yX4_measureTwo, Cond.code yX4_measureTwo cX4_measureTwo 3 none, Cond.fieldLink RX4 26 "LayoutPress$Node" "leaves" "I", Cond.fieldLink RX4 81 "LayoutPress$Node" "within" "J", Cond.fieldLink RX4 52 "LayoutPress$Node" "traits" "I", Cond.fieldLink RX4 45 "LayoutPress$Node" "indents" "Z", Cond.fieldLink RX4 104 "LayoutPress$Kind" "BROKEN" "LLayoutPress$Kind;", Cond.fieldLink RX4 107 "LayoutPress$Kind" "PAIR" "LLayoutPress$Kind;", Cond.fieldLink RX4 29 "LayoutPress$Node" "flatWidth" "I", Cond.fieldLink RX4 38 "LayoutPress$Node" "barred" "Z", Cond.fieldLink RX4 91 "LayoutPress$Node" "mostWays" "I", Cond.fieldLink RX4 85 "LayoutPress$Node" "mostFlatWays" "I", Cond.fieldLink RX4 55 "LayoutPress$Node" "layoutCount" "I"]
def wsL_keep_r3 : List Cond := [Cond.fieldLink RX4 58 "LayoutPress$Node" "flatLayoutCount" "I", Cond.fieldLink RX4 110 "LayoutPress$Kind" "CHOICE" "LLayoutPress$Kind;", Cond.methodLink RX4 94 Lib.Math.max.name, Cond.static Lib.Math.max.name, Cond.initialized "java/lang/Math", Cond.code Lib.Math.max.name Lib.Math.max.code 2 (some .int), Cond.methodLink RX4 100 yX4_atMostCounted, Cond.static yX4_atMostCounted, Cond.code yX4_atMostCounted cX4_atMostCounted 2 (some .int), Cond.constantLong RX4 113 (1000000), Cond.constant RX4 115 (1000000), Cond.methodLink RX4 65 yX4_measureOne, Cond.instanceMethod yX4_measureOne, Cond.selects RX4 yX4_measureOne yX4_measureOne, Cond.code yX4_measureOne cX4_measureOne 3 none, Cond.fieldLink RX4 72 "LayoutPress$Kind" "FLAT" "LLayoutPress$Kind;", Cond.fieldLink RX4 75 "LayoutPress$Kind" "CELL" "LLayoutPress$Kind;", Cond.fieldLink RX4 78 "LayoutPress$Kind" "ALIGN" "LLayoutPress$Kind;", Cond.fieldLink RX4 88 "LayoutPress$Kind" "GROUP" "LLayoutPress$Kind;", Cond.methodLink RX10 69 yX10_add, Cond.instanceMethod yX10_add, Cond.selects RX10 yX10_add yX10_add, Cond.code yX10_add cX10_add 2 (some .int), Cond.classLink RX10 126 "java/lang/IllegalStateException"]
def wsL_keep_r4 : List Cond := [Cond.initialized "java/lang/IllegalStateException", Cond.methodLink RX10 252 yX4_take, Cond.instanceMethod yX4_take, Cond.selects RX4 yX4_take yX4_take, Cond.code yX4_take cX4_take 2 none, Cond.fieldLink RX4 116 "LayoutPress$Node" "number" "I", Cond.methodLink RX4 119 yX4_bit, Cond.instanceMethod yX4_bit, Cond.selects RX4 yX4_bit yX4_bit, Cond.code yX4_bit cX4_bit 1 (some .long)]
def wsL_keep : List Cond := .codeWith yL_keep cL_keep 5 (some .int) [(0, 10, 13, 37), (0, 10, 17, 13), (0, 10, 21, 15)] :: ((wsL_keep_r1 ++ (wsL_keep_r2 ++ (wsL_keep_r3 ++ wsL_keep_r4))) ++ wsX40 ++ wsX100 ++ (vx_atM "java/lang/ArrayIndexOutOfBoundsException" ["java/lang/IndexOutOfBoundsException", "java/lang/RuntimeException", "java/lang/Exception"]).filter goodWord ++ (vx_atS RX10 212 "java/lang/IndexOutOfBoundsException" ["java/lang/RuntimeException", "java/lang/Exception"]).filter goodWord ++ (vx_atS RX10 238 "java/lang/IllegalArgumentException" ["java/lang/RuntimeException", "java/lang/Exception"]).filter goodWord ++ (vx_atS RX10 130 "java/lang/IllegalStateException" ["java/lang/RuntimeException", "java/lang/Exception"]).filter goodWord)
def wsL_cell_r1 : List Cond := [Cond.classLink RL 37 "java/lang/IndexOutOfBoundsException", Cond.methodLink RL 63 yX10_cell, Cond.instanceMethod yX10_cell, Cond.selects RX10 yX10_cell yX10_cell, Cond.initialized RX10, Cond.code yX10_cell cX10_cell 5 (some .int), Cond.classLink RX10 126 "java/lang/IllegalStateException", Cond.initialized "java/lang/IllegalStateException", Cond.classLink RX10 9 RX4, Cond.instantiable RX4 15, Cond.initialized RX4, Cond.fieldLink RX10 133 "LayoutPress$Kind" "CELL" "LLayoutPress$Kind;", Cond.methodLink RX10 91 yX10_nodeOf, Cond.instanceMethod yX10_nodeOf, Cond.selects RX10 yX10_nodeOf yX10_nodeOf, Cond.code yX10_nodeOf cX10_nodeOf 3 (some (.object "LayoutPress$Node")), Cond.classLink RX10 208 "java/lang/IndexOutOfBoundsException", Cond.initialized "java/lang/IndexOutOfBoundsException", Cond.fieldLink RX10 15 "LayoutPress" "madeCount" "I", Cond.fieldLink RX10 11 "LayoutPress" "made" "[LLayoutPress$Node;", Cond.methodLink RX10 56 yX10_checkRange, Cond.static yX10_checkRange, Cond.code yX10_checkRange cX10_checkRange 3 none, Cond.classLink RX10 234 "java/lang/IllegalArgumentException"]
def wsL_cell_r2 : List Cond := [Cond.initialized "java/lang/IllegalArgumentException", Cond.methodLink RX10 95 yX4_init_, Cond.instanceMethod yX4_init_, Cond.code yX4_init_ cX4_init_ 5 none, Cond.methodLink RX4 3 objectInit, Cond.instanceMethod objectInit, Cond.code objectInit ⟨#[0xb1]⟩ 1 none, Cond.fieldLink RX4 9 "LayoutPress$Node" "kind" "LLayoutPress$Kind;", Cond.fieldLink RX4 15 "LayoutPress$Node" "value" "I", Cond.fieldLink RX4 19 "LayoutPress$Node" "first" "LLayoutPress$Node;", Cond.fieldLink RX4 23 "LayoutPress$Node" "second" "LLayoutPress$Node;", Cond.methodLink RX4 61 yX4_measureTwo, Cond.instanceMethod yX4_measureTwo, Cond.selects RX4 yX4_measureTwo yX4_measureTwo, Cond.code yX4_measureTwo cX4_measureTwo 3 none, Cond.fieldLink RX4 26 "LayoutPress$Node" "leaves" "I", Cond.fieldLink RX4 81 "LayoutPress$Node" "within" "J", Cond.fieldLink RX4 52 "LayoutPress$Node" "traits" "I", Cond.fieldLink RX4 45 "LayoutPress$Node" "indents" "Z", Cond.fieldLink RX4 104 "LayoutPress$Kind" "BROKEN" "LLayoutPress$Kind;", Cond.fieldLink RX4 107 "LayoutPress$Kind" "PAIR" "LLayoutPress$Kind;", Cond.fieldLink RX4 29 "LayoutPress$Node" "flatWidth" "I", Cond.fieldLink RX4 38 "LayoutPress$Node" "barred" "Z", Cond.fieldLink RX4 91 "LayoutPress$Node" "mostWays" "I"]
def wsL_cell_r3 : List Cond := [Cond.fieldLink RX4 85 "LayoutPress$Node" "mostFlatWays" "I", Cond.fieldLink RX4 55 "LayoutPress$Node" "layoutCount" "I", Cond.fieldLink RX4 58 "LayoutPress$Node" "flatLayoutCount" "I", Cond.fieldLink RX4 110 "LayoutPress$Kind" "CHOICE" "LLayoutPress$Kind;", Cond.methodLink RX4 94 Lib.Math.max.name, Cond.static Lib.Math.max.name, Cond.initialized "java/lang/Math", Cond.code Lib.Math.max.name Lib.Math.max.code 2 (some .int), Cond.methodLink RX4 100 yX4_atMostCounted, Cond.static yX4_atMostCounted, Cond.code yX4_atMostCounted cX4_atMostCounted 2 (some .int), Cond.constantLong RX4 113 (1000000), Cond.constant RX4 115 (1000000), Cond.methodLink RX4 65 yX4_measureOne, Cond.instanceMethod yX4_measureOne, Cond.selects RX4 yX4_measureOne yX4_measureOne, Cond.code yX4_measureOne cX4_measureOne 3 none, Cond.fieldLink RX4 72 "LayoutPress$Kind" "FLAT" "LLayoutPress$Kind;", Cond.fieldLink RX4 75 "LayoutPress$Kind" "CELL" "LLayoutPress$Kind;", Cond.fieldLink RX4 78 "LayoutPress$Kind" "ALIGN" "LLayoutPress$Kind;", Cond.fieldLink RX4 88 "LayoutPress$Kind" "GROUP" "LLayoutPress$Kind;", Cond.methodLink RX10 69 yX10_add, Cond.instanceMethod yX10_add, Cond.selects RX10 yX10_add yX10_add]
def wsL_cell_r4 : List Cond := [Cond.code yX10_add cX10_add 2 (some .int), Cond.methodLink RX10 252 yX4_take, Cond.instanceMethod yX4_take, Cond.selects RX4 yX4_take yX4_take, Cond.code yX4_take cX4_take 2 none, Cond.fieldLink RX4 116 "LayoutPress$Node" "number" "I", Cond.methodLink RX4 119 yX4_bit, Cond.instanceMethod yX4_bit, Cond.selects RX4 yX4_bit yX4_bit, Cond.code yX4_bit cX4_bit 1 (some .long)]
def wsL_cell : List Cond := .codeWith yL_cell cL_cell 6 (some .int) [(0, 12, 15, 37), (0, 12, 19, 13), (0, 12, 23, 15)] :: ((wsL_cell_r1 ++ (wsL_cell_r2 ++ (wsL_cell_r3 ++ wsL_cell_r4))) ++ wsX40 ++ wsX100 ++ (vx_atM "java/lang/ArrayIndexOutOfBoundsException" ["java/lang/IndexOutOfBoundsException", "java/lang/RuntimeException", "java/lang/Exception"]).filter goodWord ++ (vx_atS RX10 130 "java/lang/IllegalStateException" ["java/lang/RuntimeException", "java/lang/Exception"]).filter goodWord ++ (vx_atS RX10 212 "java/lang/IndexOutOfBoundsException" ["java/lang/RuntimeException", "java/lang/Exception"]).filter goodWord ++ (vx_atS RX10 238 "java/lang/IllegalArgumentException" ["java/lang/RuntimeException", "java/lang/Exception"]).filter goodWord)
def wsL_size : List Cond := .codeWith yL_size cL_size 4 (some .int) [(0, 9, 12, 37)] :: ([.classLink RL 37 "java/lang/IndexOutOfBoundsException", .methodLink RL 67 yX10_size, .instanceMethod yX10_size, .selects RX10 yX10_size yX10_size, .initialized RX10, .code yX10_size cX10_size 2 (some .int), .methodLink RX10 91 yX10_nodeOf, .instanceMethod yX10_nodeOf, .selects RX10 yX10_nodeOf yX10_nodeOf, .code yX10_nodeOf cX10_nodeOf 3 (some (.object "LayoutPress$Node")), .classLink RX10 208 "java/lang/IndexOutOfBoundsException", .initialized "java/lang/IndexOutOfBoundsException", .fieldLink RX10 15 "LayoutPress" "madeCount" "I", .fieldLink RX10 11 "LayoutPress" "made" "[LLayoutPress$Node;"] ++ wsX40 ++ wsX100 ++ (vx_atM "java/lang/ArrayIndexOutOfBoundsException" ["java/lang/IndexOutOfBoundsException", "java/lang/RuntimeException", "java/lang/Exception"]).filter goodWord ++ (vx_atS RX10 212 "java/lang/IndexOutOfBoundsException" ["java/lang/RuntimeException", "java/lang/Exception"]).filter goodWord)
def wsL_layouts : List Cond := .codeWith yL_layouts cL_layouts 4 (some .int) [(0, 9, 12, 37)] :: ([.classLink RL 37 "java/lang/IndexOutOfBoundsException", .methodLink RL 70 yX10_layouts, .instanceMethod yX10_layouts, .selects RX10 yX10_layouts yX10_layouts, .initialized RX10, .code yX10_layouts cX10_layouts 2 (some .int), .methodLink RX10 91 yX10_nodeOf, .instanceMethod yX10_nodeOf, .selects RX10 yX10_nodeOf yX10_nodeOf, .code yX10_nodeOf cX10_nodeOf 3 (some (.object "LayoutPress$Node")), .classLink RX10 208 "java/lang/IndexOutOfBoundsException", .initialized "java/lang/IndexOutOfBoundsException", .fieldLink RX10 15 "LayoutPress" "madeCount" "I", .fieldLink RX10 11 "LayoutPress" "made" "[LLayoutPress$Node;"] ++ wsX40 ++ wsX100 ++ (vx_atM "java/lang/ArrayIndexOutOfBoundsException" ["java/lang/IndexOutOfBoundsException", "java/lang/RuntimeException", "java/lang/Exception"]).filter goodWord ++ (vx_atS RX10 212 "java/lang/IndexOutOfBoundsException" ["java/lang/RuntimeException", "java/lang/Exception"]).filter goodWord)
def wsL_print_r1 : List Cond := [Cond.classLink RL 37 "java/lang/IndexOutOfBoundsException", Cond.methodLink RL 73 yX10_print, Cond.instanceMethod yX10_print, Cond.selects RX10 yX10_print yX10_print, Cond.initialized RX10, Cond.code yX10_print cX10_print 6 (some .int), Cond.classLink RX10 126 "java/lang/IllegalStateException", Cond.initialized "java/lang/IllegalStateException", Cond.fieldLink RX10 31 "LayoutPress" "search" "LLayoutPress$Search;", Cond.fieldLink RX10 38 "LayoutPress" "hand" "LLayoutPress$Hand;", Cond.methodLink RX10 91 yX10_nodeOf, Cond.instanceMethod yX10_nodeOf, Cond.selects RX10 yX10_nodeOf yX10_nodeOf, Cond.code yX10_nodeOf cX10_nodeOf 3 (some (.object "LayoutPress$Node")), Cond.classLink RX10 208 "java/lang/IndexOutOfBoundsException", Cond.initialized "java/lang/IndexOutOfBoundsException", Cond.fieldLink RX10 15 "LayoutPress" "madeCount" "I", Cond.fieldLink RX10 11 "LayoutPress" "made" "[LLayoutPress$Node;", Cond.methodLink RX10 142 yX10_agreeOn, Cond.instanceMethod yX10_agreeOn, Cond.selects RX10 yX10_agreeOn yX10_agreeOn, Cond.code yX10_agreeOn cX10_agreeOn 5 none, Cond.fieldLink RX10 22 "LayoutPress" "terms" "LLayoutPress$Terms;", Cond.methodLink RX10 56 yX10_checkRange]
def wsL_print_r2 : List Cond := [Cond.static yX10_checkRange, Cond.code yX10_checkRange cX10_checkRange 3 none, Cond.classLink RX10 234 "java/lang/IllegalArgumentException", Cond.initialized "java/lang/IllegalArgumentException", Cond.methodLink RX10 255 yX9_set, Cond.instanceMethod yX9_set, Cond.selects RX9 yX9_set yX9_set, Cond.initialized RX9, Cond.code yX9_set cX9_set 4 none, Cond.fieldLink RX9 15 "LayoutPress$Terms" "width" "I", Cond.fieldLink RX9 19 "LayoutPress$Terms" "ribbon" "I", Cond.fieldLink RX9 22 "LayoutPress$Terms" "linePrice" "I", Cond.methodLink RX10 258 yX9_measureCells, Cond.instanceMethod yX9_measureCells, Cond.selects RX9 yX9_measureCells yX9_measureCells, Cond.code yX9_measureCells cX9_measureCells 5 none, Cond.fieldLink RX9 9 "LayoutPress$Terms" "widest" "[I", Cond.fieldLink RX9 37 "LayoutPress$Kind" "CELL" "LLayoutPress$Kind;", Cond.methodLink RX9 25 yJ7_fill_53178, Cond.static yJ7_fill_53178, Cond.initialized RJ7, Cond.code yJ7_fill_53178 cJ7_fill_53178 4 none, Cond.methodLink RX9 46 yX4_bit, Cond.instanceMethod yX4_bit]
def wsL_print_r3 : List Cond := [Cond.selects RX4 yX4_bit yX4_bit, Cond.initialized RX4, Cond.code yX4_bit cX4_bit 1 (some .long), Cond.fieldLink RX4 116 "LayoutPress$Node" "number" "I", Cond.methodLink RX9 50 yX9_widen, Cond.instanceMethod yX9_widen, Cond.selects RX9 yX9_widen yX9_widen, Cond.code yX9_widen cX9_widen 3 none, Cond.methodLink RX10 146 yX6_findBest, Cond.instanceMethod yX6_findBest, Cond.selects RX6 yX6_findBest yX6_findBest, Cond.initialized RX6, Cond.code yX6_findBest cX6_findBest 5 (some .boolean), Cond.fieldLink RX6 31 "LayoutPress$Search" "hasFound" "Z", Cond.fieldLink RX6 27 "LayoutPress$Search" "states" "LLayoutPress$States;", Cond.constantLong RX6 39 (-1), Cond.constantLong RX6 48 (8), Cond.constantLong RX6 50 (7), Cond.methodLink RX6 52 Lib.MathLoose.max_long.x, Cond.static Lib.MathLoose.max_long.x, Cond.initialized "java/lang/Math", Cond.code Lib.MathLoose.max_long.x Lib.MathLoose.max_long.code 4 (some .long), Cond.methodLink RX6 44 yX6_searchInParts, Cond.instanceMethod yX6_searchInParts]
def wsL_print_r4 : List Cond := [Cond.selects RX6 yX6_searchInParts yX6_searchInParts, Cond.code yX6_searchInParts cX6_searchInParts 4 none, Cond.fieldLink RX6 18 "LayoutPress$Search" "held" "LLayoutPress$Held;", Cond.constant RX6 61 (1073741824), Cond.methodLink RX6 58 yX2_begin, Cond.instanceMethod yX2_begin, Cond.selects RX2 yX2_begin yX2_begin, Cond.initialized RX2, Cond.code yX2_begin cX2_begin 1 none, Cond.fieldLink RX2 24 "LayoutPress$Held" "level" "I", Cond.fieldLink RX2 28 "LayoutPress$Held" "count" "I", Cond.fieldLink RX2 11 "LayoutPress$Held" "places" "[I", Cond.fieldLink RX2 15 "LayoutPress$Held" "ways" "[I", Cond.fieldLink RX2 21 "LayoutPress$Held" "begins" "[I", Cond.methodLink RX6 62 yX8_begin, Cond.instanceMethod yX8_begin, Cond.selects RX8 yX8_begin yX8_begin, Cond.initialized RX8, Cond.code yX8_begin cX8_begin 1 none, Cond.fieldLink RX8 57 "LayoutPress$States" "isFull" "Z", Cond.fieldLink RX8 41 "LayoutPress$States" "floor" "[J", Cond.fieldLink RX8 19 "LayoutPress$States" "column" "[I", Cond.fieldLink RX8 15 "LayoutPress$States" "around" "[I", Cond.fieldLink RX8 22 "LayoutPress$States" "first" "[I"]
def wsL_print_r5 : List Cond := [Cond.fieldLink RX8 25 "LayoutPress$States" "hasRemark" "[I", Cond.fieldLink RX8 28 "LayoutPress$States" "paid" "[J", Cond.fieldLink RX8 32 "LayoutPress$States" "weight" "[J", Cond.fieldLink RX8 35 "LayoutPress$States" "ways" "[I", Cond.fieldLink RX8 38 "LayoutPress$States" "told" "[I", Cond.fieldLink RX8 61 "LayoutPress$States" "top" "I", Cond.methodLink RX6 63 yX6_advance, Cond.instanceMethod yX6_advance, Cond.selects RX6 yX6_advance yX6_advance, Cond.code yX6_advance cX6_advance 8 none, Cond.fieldLink RX6 106 "LayoutPress$1" "$SwitchMap$LayoutPress$Kind" "[I", Cond.fieldLink RX6 9 "LayoutPress$Search" "terms" "LLayoutPress$Terms;", Cond.methodLink RX6 117 ⟨"LayoutPress$Kind", "ordinal", "()I"⟩, Cond.sameMethod "LayoutPress$Kind" "java/lang/Enum" "ordinal" "()I", Cond.selects RX3 ⟨"LayoutPress$Kind", "ordinal", "()I"⟩ yJx29ce0_ordinal_8abf5, Cond.instanceMethod yJx29ce0_ordinal_8abf5, Cond.initialized RJx29ce0, Cond.code yJx29ce0_ordinal_8abf5 cJx29ce0_ordinal_8abf5 1 (some .int), Cond.fieldLink RJx29ce0 7 "java/lang/Enum" "ordinal" "I", Cond.methodLink RX6 136 yX6_advanceAlign, Cond.instanceMethod yX6_advanceAlign, Cond.selects RX6 yX6_advanceAlign yX6_advanceAlign, Cond.methodLink RX6 139 yX6_fork, Cond.instanceMethod yX6_fork]
def wsL_print_r6 : List Cond := [Cond.selects RX6 yX6_fork yX6_fork, Cond.methodLink RX6 142 yX6_pay, Cond.instanceMethod yX6_pay, Cond.selects RX6 yX6_pay yX6_pay, Cond.code yX6_pay cX6_pay 4 none, Cond.methodLink RX6 220 yX8_addCost, Cond.instanceMethod yX8_addCost, Cond.selects RX8 yX8_addCost yX8_addCost, Cond.code yX8_addCost cX8_addCost 4 none, Cond.constantLong RX8 120 (32), Cond.methodLink RX6 224 yX8_dropHeavy, Cond.instanceMethod yX8_dropHeavy, Cond.selects RX8 yX8_dropHeavy yX8_dropHeavy, Cond.code yX8_dropHeavy cX8_dropHeavy 4 none, Cond.methodLink RX8 90 yX8_isHeavy, Cond.instanceMethod yX8_isHeavy, Cond.selects RX8 yX8_isHeavy yX8_isHeavy, Cond.code yX8_isHeavy cX8_isHeavy 5 (some .boolean), Cond.fieldLink RX8 98 "LayoutPress$States" "limit" "J", Cond.fieldLink RX8 102 "LayoutPress$States" "leastDropped" "J", Cond.constantLong RX8 105 (-1), Cond.methodLink RX8 94 yX8_fullWeight, Cond.instanceMethod yX8_fullWeight, Cond.selects RX8 yX8_fullWeight yX8_fullWeight]
def wsL_print_r7 : List Cond := [Cond.code yX8_fullWeight cX8_fullWeight 3 (some .long), Cond.methodLink RX8 86 yX8_copyState, Cond.instanceMethod yX8_copyState, Cond.selects RX8 yX8_copyState yX8_copyState, Cond.code yX8_copyState cX8_copyState 3 none, Cond.methodLink RX6 146 yX9_padding, Cond.instanceMethod yX9_padding, Cond.selects RX9 yX9_padding yX9_padding, Cond.code yX9_padding cX9_padding 3 (some .int), Cond.methodLink RX6 152 yX6_putBlanks, Cond.instanceMethod yX6_putBlanks, Cond.selects RX6 yX6_putBlanks yX6_putBlanks, Cond.code yX6_putBlanks cX6_putBlanks 4 none, Cond.methodLink RX6 155 yX6_settle, Cond.instanceMethod yX6_settle, Cond.selects RX6 yX6_settle yX6_settle, Cond.code yX6_settle cX6_settle 3 none, Cond.methodLink RX6 213 yX8_forgetLines, Cond.instanceMethod yX8_forgetLines, Cond.selects RX8 yX8_forgetLines yX8_forgetLines, Cond.code yX8_forgetLines cX8_forgetLines 3 none, Cond.methodLink RX8 122 yX8_beginLine, Cond.instanceMethod yX8_beginLine, Cond.selects RX8 yX8_beginLine yX8_beginLine]
def wsL_print_r8 : List Cond := [Cond.code yX8_beginLine cX8_beginLine 3 none, Cond.methodLink RX6 216 yX8_merge, Cond.instanceMethod yX8_merge, Cond.selects RX8 yX8_merge yX8_merge, Cond.code yX8_merge cX8_merge 5 none, Cond.methodLink RX8 125 yX8_clearSlots, Cond.instanceMethod yX8_clearSlots, Cond.selects RX8 yX8_clearSlots yX8_clearSlots, Cond.code yX8_clearSlots cX8_clearSlots 3 none, Cond.fieldLink RX8 53 "LayoutPress$States" "slotCount" "I", Cond.fieldLink RX8 50 "LayoutPress$States" "slots" "[I", Cond.arrayClass .int, Cond.methodLink RX8 142 yJ7_fill_fda19, Cond.static yJ7_fill_fda19, Cond.code yJ7_fill_fda19 cJ7_fill_fda19 5 none, Cond.methodLink RJ7 13 yJ7_rangeCheck_23922, Cond.static yJ7_rangeCheck_23922, Cond.code yJ7_rangeCheck_23922 cJ7_rangeCheck_23922 3 none, Cond.classLink RJ7 45 RJ4, Cond.instantiable RJ4 4, Cond.initialized RJ4, Cond.classLink RJ7 68 RJx00060, Cond.instantiable RJx00060 6, Cond.initialized RJx00060]
def wsL_print_r9 : List Cond := [Cond.methodLink RX8 128 yX8_keepTop, Cond.instanceMethod yX8_keepTop, Cond.selects RX8 yX8_keepTop yX8_keepTop, Cond.code yX8_keepTop cX8_keepTop 5 none, Cond.fieldLink RX8 44 "LayoutPress$States" "link" "[I", Cond.methodLink RX8 132 yX8_mix, Cond.static yX8_mix, Cond.code yX8_mix cX8_mix 3 (some .int), Cond.constant RX8 146 (-1640531535), Cond.methodLink RX8 135 yX8_slotOf, Cond.instanceMethod yX8_slotOf, Cond.selects RX8 yX8_slotOf yX8_slotOf, Cond.code yX8_slotOf cX8_slotOf 2 (some .int), Cond.methodLink RX8 138 yX8_goesOnNoWorse, Cond.instanceMethod yX8_goesOnNoWorse, Cond.selects RX8 yX8_goesOnNoWorse yX8_goesOnNoWorse, Cond.code yX8_goesOnNoWorse cX8_goesOnNoWorse 8 (some .boolean), Cond.methodLink RX6 158 yX6_putLeaf, Cond.instanceMethod yX6_putLeaf, Cond.selects RX6 yX6_putLeaf yX6_putLeaf, Cond.code yX6_putLeaf cX6_putLeaf 5 none, Cond.fieldLink RX6 230 "LayoutPress$Kind" "TAB" "LLayoutPress$Kind;", Cond.methodLink RX6 233 yX6_putTab, Cond.instanceMethod yX6_putTab]
def wsL_print_r10 : List Cond := [Cond.selects RX6 yX6_putTab yX6_putTab, Cond.code yX6_putTab cX6_putTab 4 none, Cond.methodLink RX6 270 Lib.Math.max.name, Cond.static Lib.Math.max.name, Cond.code Lib.Math.max.name Lib.Math.max.code 2 (some .int), Cond.methodLink RX6 236 yX3_endsLine, Cond.instanceMethod yX3_endsLine, Cond.selects RX3 yX3_endsLine yX3_endsLine, Cond.initialized RX3, Cond.code yX3_endsLine cX3_endsLine 1 (some .boolean), Cond.fieldLink RX3 10 "LayoutPress$Kind" "LINE" "LLayoutPress$Kind;", Cond.fieldLink RX3 13 "LayoutPress$Kind" "SOFT" "LLayoutPress$Kind;", Cond.fieldLink RX3 16 "LayoutPress$Kind" "HARD" "LLayoutPress$Kind;", Cond.methodLink RX6 239 yX6_putSigns, Cond.instanceMethod yX6_putSigns, Cond.selects RX6 yX6_putSigns yX6_putSigns, Cond.code yX6_putSigns cX6_putSigns 7 none, Cond.fieldLink RX6 249 "LayoutPress$Kind" "REMARK" "LLayoutPress$Kind;", Cond.methodLink RX6 252 yX8_dropRemarked, Cond.instanceMethod yX8_dropRemarked, Cond.selects RX8 yX8_dropRemarked yX8_dropRemarked, Cond.code yX8_dropRemarked cX8_dropRemarked 4 none, Cond.methodLink RX6 260 yX9_lineCost, Cond.instanceMethod yX9_lineCost]
def wsL_print_r11 : List Cond := [Cond.selects RX9 yX9_lineCost yX9_lineCost, Cond.code yX9_lineCost cX9_lineCost 7 (some .long), Cond.methodLink RX9 60 Lib.Math.max.name, Cond.methodLink RX6 246 yX6_endLines, Cond.instanceMethod yX6_endLines, Cond.selects RX6 yX6_endLines yX6_endLines, Cond.code yX6_endLines cX6_endLines 4 none, Cond.methodLink RX6 275 yX8_addLineEnd, Cond.instanceMethod yX8_addLineEnd, Cond.selects RX8 yX8_addLineEnd yX8_addLineEnd, Cond.code yX8_addLineEnd cX8_addLineEnd 2 none, Cond.methodLink RX6 278 yX8_indentationOf, Cond.instanceMethod yX8_indentationOf, Cond.selects RX8 yX8_indentationOf yX8_indentationOf, Cond.code yX8_indentationOf cX8_indentationOf 3 (some .int), Cond.methodLink RX6 281 yX8_beginLine, Cond.code yX6_advanceAlign cX6_advanceAlign 8 none, Cond.fieldLink RX6 165 "LayoutPress$Kind" "NEST" "LLayoutPress$Kind;", Cond.fieldLink RX6 168 "LayoutPress$Kind" "PAIR" "LLayoutPress$Kind;", Cond.methodLink RX6 171 yX6_passAlign, Cond.instanceMethod yX6_passAlign, Cond.selects RX6 yX6_passAlign yX6_passAlign, Cond.code yX6_fork cX6_fork 10 none, Cond.fieldLink RX6 206 "LayoutPress$Kind" "GROUP" "LLayoutPress$Kind;"]
def wsL_print_r12 : List Cond := [Cond.methodLink RX6 209 yX8_branch, Cond.instanceMethod yX8_branch, Cond.selects RX8 yX8_branch yX8_branch, Cond.code yX8_branch cX8_branch 5 none, Cond.fieldLink RX8 9 "LayoutPress$States" "held" "LLayoutPress$Held;", Cond.methodLink RX8 107 yX2_allows, Cond.instanceMethod yX2_allows, Cond.selects RX2 yX2_allows yX2_allows, Cond.code yX2_allows cX2_allows 4 (some .boolean), Cond.static yX10_wayBit, Cond.code yX10_wayBit cX10_wayBit 1 (some .int), Cond.methodLink RX8 113 yX8_hasRoom, Cond.instanceMethod yX8_hasRoom, Cond.selects RX8 yX8_hasRoom yX8_hasRoom, Cond.code yX8_hasRoom cX8_hasRoom 3 (some .boolean), Cond.methodLink RX8 64 Lib.Math.max.name, Cond.methodLink RX8 70 Lib.Math.min.name, Cond.static Lib.Math.min.name, Cond.code Lib.Math.min.name Lib.Math.min.code 2 (some .int), Cond.methodLink RX8 73 yX8_makeRows, Cond.instanceMethod yX8_makeRows, Cond.selects RX8 yX8_makeRows yX8_makeRows, Cond.code yX8_makeRows cX8_makeRows 2 none, Cond.fieldLink RX8 47 "LayoutPress$States" "head" "[I"]
def wsL_print_r13 : List Cond := [Cond.methodLink RX8 77 yJ7_copyOf_59c91, Cond.static yJ7_copyOf_59c91, Cond.code yJ7_copyOf_59c91 cJ7_copyOf_59c91 3 (some (.array .int)), Cond.methodLink RJ7 316 ⟨"[I", "clone", "()Ljava/lang/Object;"⟩, Cond.sameMethod "[I" "java/lang/Object" "clone" "()Ljava/lang/Object;", Cond.native ⟨"java/lang/Object", "clone", "()Ljava/lang/Object;"⟩, Cond.instanceMethod ⟨"java/lang/Object", "clone", "()Ljava/lang/Object;"⟩, Cond.selects "[I" ⟨"[I", "clone", "()Ljava/lang/Object;"⟩ ⟨"java/lang/Object", "clone", "()Ljava/lang/Object;"⟩, Cond.classLink RJ7 317 "[I", Cond.methodLink RJ7 304 Lib.Math.min.name, Cond.methodLink RJ7 150 arraycopyName, Cond.native arraycopyName, Cond.static arraycopyName, Cond.initialized "java/lang/System", Cond.methodLink RX8 83 yJ7_copyOf_c38d5, Cond.static yJ7_copyOf_c38d5, Cond.code yJ7_copyOf_c38d5 cJ7_copyOf_c38d5 3 (some (.array .long)), Cond.methodLink RJ7 319 ⟨"[J", "clone", "()Ljava/lang/Object;"⟩, Cond.sameMethod "[J" "java/lang/Object" "clone" "()Ljava/lang/Object;", Cond.selects "[J" ⟨"[J", "clone", "()Ljava/lang/Object;"⟩ ⟨"java/lang/Object", "clone", "()Ljava/lang/Object;"⟩, Cond.classLink RJ7 320 "[J", Cond.arrayClass .long, Cond.methodLink RX6 203 yX8_slide, Cond.instanceMethod yX8_slide]
def wsL_print_r14 : List Cond := [Cond.selects RX8 yX8_slide yX8_slide, Cond.code yX8_slide cX8_slide 5 none, Cond.code yX6_passAlign cX6_passAlign 14 none, Cond.methodLink RX6 175 yX8_waitAtAlign, Cond.instanceMethod yX8_waitAtAlign, Cond.selects RX8 yX8_waitAtAlign yX8_waitAtAlign, Cond.code yX8_waitAtAlign cX8_waitAtAlign 6 none, Cond.methodLink RX8 150 Lib.MathLoose.min_long.x, Cond.static Lib.MathLoose.min_long.x, Cond.code Lib.MathLoose.min_long.x Lib.MathLoose.min_long.code 4 (some .long), Cond.methodLink RX8 147 yX8_isInSameLine, Cond.instanceMethod yX8_isInSameLine, Cond.selects RX8 yX8_isInSameLine yX8_isInSameLine, Cond.code yX8_isInSameLine cX8_isInSameLine 3 (some .boolean), Cond.methodLink RX6 179 yX2_enter, Cond.instanceMethod yX2_enter, Cond.selects RX2 yX2_enter yX2_enter, Cond.code yX2_enter cX2_enter 1 none, Cond.methodLink RX6 182 yX8_enterAlign, Cond.instanceMethod yX8_enterAlign, Cond.selects RX8 yX8_enterAlign yX8_enterAlign, Cond.code yX8_enterAlign cX8_enterAlign 6 (some .int), Cond.methodLink RX6 186 yX8_waitingFor, Cond.instanceMethod yX8_waitingFor]
def wsL_print_r15 : List Cond := [Cond.selects RX8 yX8_waitingFor yX8_waitingFor, Cond.code yX8_waitingFor cX8_waitingFor 2 (some .int), Cond.methodLink RX6 190 yX8_leaveAlign, Cond.instanceMethod yX8_leaveAlign, Cond.selects RX8 yX8_leaveAlign yX8_leaveAlign, Cond.code yX8_leaveAlign cX8_leaveAlign 11 none, Cond.methodLink RX8 153 yX8_join, Cond.instanceMethod yX8_join, Cond.selects RX8 yX8_join yX8_join, Cond.code yX8_join cX8_join 4 none, Cond.methodLink RX8 160 yX2_allowsOutside, Cond.instanceMethod yX2_allowsOutside, Cond.selects RX2 yX2_allowsOutside yX2_allowsOutside, Cond.code yX2_allowsOutside cX2_allowsOutside 5 (some .boolean), Cond.methodLink RX2 31 Lib.Math.max.name, Cond.methodLink RX8 157 yX8_slide, Cond.methodLink RX6 81 yX2_goOn, Cond.instanceMethod yX2_goOn, Cond.selects RX2 yX2_goOn yX2_goOn, Cond.code yX2_goOn cX2_goOn 2 (some .boolean), Cond.fieldLink RX2 18 "LayoutPress$Held" "order" "[I", Cond.methodLink RX6 194 yX8_giveUp, Cond.instanceMethod yX8_giveUp, Cond.selects RX8 yX8_giveUp yX8_giveUp]
def wsL_print_r16 : List Cond := [Cond.code yX8_giveUp cX8_giveUp 2 none, Cond.methodLink RX6 197 yX6_hasRoomInside, Cond.static yX6_hasRoomInside, Cond.code yX6_hasRoomInside cX6_hasRoomInside 1 (some .boolean), Cond.methodLink RX6 70 yX8_placeToHold, Cond.instanceMethod yX8_placeToHold, Cond.selects RX8 yX8_placeToHold yX8_placeToHold, Cond.code yX8_placeToHold cX8_placeToHold 7 (some .int), Cond.methodLink RX8 163 yX2_isHeld, Cond.instanceMethod yX2_isHeld, Cond.selects RX2 yX2_isHeld yX2_isHeld, Cond.code yX2_isHeld cX2_isHeld 2 (some .boolean), Cond.methodLink RX8 166 yX8_countLess, Cond.instanceMethod yX8_countLess, Cond.selects RX8 yX8_countLess yX8_countLess, Cond.code yX8_countLess cX8_countLess 8 (some .int), Cond.static yX10_wayIn, Cond.code yX10_wayIn cX10_wayIn 2 (some .int), Cond.methodLink RX10 273 yX10_wayBit, Cond.methodLink RX6 74 yX2_hold, Cond.instanceMethod yX2_hold, Cond.selects RX2 yX2_hold yX2_hold, Cond.code yX2_hold cX2_hold 2 (some .boolean), Cond.methodLink RX6 200 yX2_leave]
def wsL_print_r17 : List Cond := [Cond.instanceMethod yX2_leave, Cond.selects RX2 yX2_leave yX2_leave, Cond.code yX2_leave cX2_leave 1 none, Cond.methodLink RX6 78 yX6_keepBest, Cond.instanceMethod yX6_keepBest, Cond.selects RX6 yX6_keepBest yX6_keepBest, Cond.code yX6_keepBest cX6_keepBest 5 none, Cond.fieldLink RX6 97 "LayoutPress$Search" "bestWays" "I", Cond.fieldLink RX6 103 "LayoutPress$Search" "bestTold" "I", Cond.methodLink RX10 158 yX1_write, Cond.instanceMethod yX1_write, Cond.selects RX1 yX1_write yX1_write, Cond.initialized RX1, Cond.code yX1_write cX1_write 4 none, Cond.methodLink RX1 22 yX1_layOut, Cond.instanceMethod yX1_layOut, Cond.selects RX1 yX1_layOut yX1_layOut, Cond.code yX1_layOut cX1_layOut 6 none, Cond.fieldLink RX1 26 "LayoutPress$Hand" "plan" "I", Cond.fieldLink RX1 30 "LayoutPress$Hand" "planned" "I", Cond.fieldLink RX1 33 "LayoutPress$Hand" "laterWay" "I", Cond.fieldLink RX1 36 "LayoutPress$Hand" "watched" "I", Cond.fieldLink RX1 39 "LayoutPress$Hand" "hasStopped" "Z", Cond.fieldLink RX1 18 "LayoutPress$Hand" "sheet" "LLayoutPress$Sheet;"]
def wsL_print_r18 : List Cond := [Cond.methodLink RX1 43 yX7_clear, Cond.instanceMethod yX7_clear, Cond.selects RX7 yX7_clear yX7_clear, Cond.initialized RX7, Cond.code yX7_clear cX7_clear 1 none, Cond.fieldLink RX7 42 "LayoutPress$Sheet" "lineCount" "I", Cond.fieldLink RX7 46 "LayoutPress$Sheet" "isImpossible" "Z", Cond.fieldLink RX7 50 "LayoutPress$Sheet" "prices" "J", Cond.fieldLink RX7 54 "LayoutPress$Sheet" "ways" "I", Cond.fieldLink RX7 57 "LayoutPress$Sheet" "told" "I", Cond.fieldLink RX7 60 "LayoutPress$Sheet" "ownerCount" "I", Cond.fieldLink RX7 21 "LayoutPress$Sheet" "starts" "[I", Cond.methodLink RX7 24 yJ7_fill_53178, Cond.methodLink RX7 63 yX7_beginLine, Cond.instanceMethod yX7_beginLine, Cond.selects RX7 yX7_beginLine yX7_beginLine, Cond.code yX7_beginLine cX7_beginLine 2 none, Cond.fieldLink RX7 9 "LayoutPress$Sheet" "firsts" "[I", Cond.fieldLink RX7 15 "LayoutPress$Sheet" "ends" "[I", Cond.fieldLink RX7 18 "LayoutPress$Sheet" "cutCosts" "[I", Cond.methodLink RX7 67 Lib.Math.max.name, Cond.fieldLink RX7 73 "LayoutPress$Sheet" "column" "I", Cond.fieldLink RX7 76 "LayoutPress$Sheet" "hasRemark" "Z", Cond.methodLink RX1 46 yX1_put]
def wsL_print_r19 : List Cond := [Cond.instanceMethod yX1_put, Cond.selects RX1 yX1_put yX1_put, Cond.code yX1_put cX1_put 6 none, Cond.fieldLink RX1 108 "LayoutPress$1" "$SwitchMap$LayoutPress$Kind" "[I", Cond.fieldLink RX1 9 "LayoutPress$Hand" "terms" "LLayoutPress$Terms;", Cond.methodLink RX1 104 yX7_beginNode, Cond.instanceMethod yX7_beginNode, Cond.selects RX7 yX7_beginNode yX7_beginNode, Cond.code yX7_beginNode cX7_beginNode 3 none, Cond.methodLink RX7 82 yX7_present, Cond.instanceMethod yX7_present, Cond.selects RX7 yX7_present yX7_present, Cond.code yX7_present cX7_present 1 (some .int), Cond.methodLink RX1 120 ⟨"LayoutPress$Kind", "ordinal", "()I"⟩, Cond.methodLink RX1 138 yX1_decide, Cond.instanceMethod yX1_decide, Cond.selects RX1 yX1_decide yX1_decide, Cond.code yX1_decide cX1_decide 2 (some .int), Cond.methodLink RX1 97 yX7_tell, Cond.instanceMethod yX7_tell, Cond.selects RX7 yX7_tell yX7_tell, Cond.code yX7_tell cX7_tell 2 none, Cond.methodLink RX1 84 yX7_present, Cond.methodLink RX1 145 yX7_keepTogether]
def wsL_print_r20 : List Cond := [Cond.instanceMethod yX7_keepTogether, Cond.selects RX7 yX7_keepTogether yX7_keepTogether, Cond.code yX7_keepTogether cX7_keepTogether 4 none, Cond.methodLink RX1 149 yX9_padding, Cond.methodLink RX1 153 yX7_putBlanks, Cond.instanceMethod yX7_putBlanks, Cond.selects RX7 yX7_putBlanks yX7_putBlanks, Cond.code yX7_putBlanks cX7_putBlanks 2 none, Cond.methodLink RX1 156 yX1_putLeaf, Cond.instanceMethod yX1_putLeaf, Cond.selects RX1 yX1_putLeaf yX1_putLeaf, Cond.code yX1_putLeaf cX1_putLeaf 4 none, Cond.fieldLink RX1 163 "LayoutPress$Kind" "TAB" "LLayoutPress$Kind;", Cond.methodLink RX1 166 yX7_putTab, Cond.instanceMethod yX7_putTab, Cond.selects RX7 yX7_putTab yX7_putTab, Cond.code yX7_putTab cX7_putTab 2 none, Cond.methodLink RX1 169 yX3_endsLine, Cond.methodLink RX1 172 yX7_putSigns, Cond.instanceMethod yX7_putSigns, Cond.selects RX7 yX7_putSigns yX7_putSigns, Cond.code yX7_putSigns cX7_putSigns 3 none, Cond.fieldLink RX7 32 "LayoutPress$Sheet" "owners" "[LLayoutPress$Node;", Cond.fieldLink RX7 36 "LayoutPress$Sheet" "ownerLines" "[I"]
def wsL_print_r21 : List Cond := [Cond.fieldLink RX7 39 "LayoutPress$Sheet" "ownerColumns" "[I", Cond.fieldLink RX7 93 "LayoutPress$Kind" "REMARK" "LLayoutPress$Kind;", Cond.methodLink RX1 178 yX1_endLine, Cond.instanceMethod yX1_endLine, Cond.selects RX1 yX1_endLine yX1_endLine, Cond.code yX1_endLine cX1_endLine 2 none, Cond.methodLink RX1 101 yX7_beginLine, Cond.methodLink RX10 162 yX10_takeSheet, Cond.instanceMethod yX10_takeSheet, Cond.selects RX10 yX10_takeSheet yX10_takeSheet, Cond.code yX10_takeSheet cX10_takeSheet 1 (some .int), Cond.fieldLink RX10 52 "LayoutPress" "printed" "LLayoutPress$Sheet;", Cond.fieldLink RX10 45 "LayoutPress" "pages" "LLayoutPress$Pages;", Cond.methodLink RX10 262 yX1_exchange, Cond.instanceMethod yX1_exchange, Cond.selects RX1 yX1_exchange yX1_exchange, Cond.code yX1_exchange cX1_exchange 3 (some (.object "LayoutPress$Sheet")), Cond.methodLink RX10 266 yX5_forget, Cond.instanceMethod yX5_forget, Cond.selects RX5 yX5_forget yX5_forget, Cond.initialized RX5, Cond.code yX5_forget cX5_forget 1 none, Cond.fieldLink RX5 24 "LayoutPress$Pages" "areBroken" "Z", Cond.methodLink RX10 269 yX9_costOf]
def wsL_print_r22 : List Cond := [Cond.instanceMethod yX9_costOf, Cond.selects RX9 yX9_costOf yX9_costOf, Cond.code yX9_costOf cX9_costOf 5 (some .long), Cond.methodLink RX9 74 yX7_firstOf, Cond.instanceMethod yX7_firstOf, Cond.selects RX7 yX7_firstOf yX7_firstOf, Cond.code yX7_firstOf cX7_firstOf 2 (some .int), Cond.methodLink RX9 78 yX7_endOf, Cond.instanceMethod yX7_endOf, Cond.selects RX7 yX7_endOf yX7_endOf, Cond.code yX7_endOf cX7_endOf 2 (some .int), Cond.methodLink RX9 81 yX9_lineCost]
def wsL_print : List Cond := .codeWith yL_print cL_print 7 (some .int) [(0, 14, 17, 37), (0, 14, 21, 13), (0, 14, 25, 15)] :: ((wsL_print_r1 ++ (wsL_print_r2 ++ (wsL_print_r3 ++ (wsL_print_r4 ++ (wsL_print_r5 ++ (wsL_print_r6 ++ (wsL_print_r7 ++ (wsL_print_r8 ++ (wsL_print_r9 ++ (wsL_print_r10 ++ (wsL_print_r11 ++ (wsL_print_r12 ++ (wsL_print_r13 ++ (wsL_print_r14 ++ (wsL_print_r15 ++ (wsL_print_r16 ++ (wsL_print_r17 ++ (wsL_print_r18 ++ (wsL_print_r19 ++ (wsL_print_r20 ++ (wsL_print_r21 ++ wsL_print_r22))))))))))))))))))))) ++ wsX100 ++ wsX60 ++ wsX90 ++ wsX40 ++ wsX80 ++ wsX20 ++ wsJ40 ++ wsJx000600 ++ wsX10 ++ wsX70 ++ wsX50 ++ (vx_atM "java/lang/ArrayIndexOutOfBoundsException" ["java/lang/IndexOutOfBoundsException", "java/lang/RuntimeException", "java/lang/Exception"]).filter goodWord ++ (vx_atS RX10 130 "java/lang/IllegalStateException" ["java/lang/RuntimeException", "java/lang/Exception"]).filter goodWord ++ (vx_atS RX10 212 "java/lang/IndexOutOfBoundsException" ["java/lang/RuntimeException", "java/lang/Exception"]).filter goodWord ++ (vx_atS RX10 238 "java/lang/IllegalArgumentException" ["java/lang/RuntimeException", "java/lang/Exception"]).filter goodWord)
def wsL_printByAll_r1 : List Cond := [Cond.classLink RL 37 "java/lang/IndexOutOfBoundsException", Cond.methodLink RL 77 yX10_printByAll, Cond.instanceMethod yX10_printByAll, Cond.selects RX10 yX10_printByAll yX10_printByAll, Cond.initialized RX10, Cond.code yX10_printByAll cX10_printByAll 6 (some .int), Cond.classLink RX10 126 "java/lang/IllegalStateException", Cond.initialized "java/lang/IllegalStateException", Cond.fieldLink RX10 38 "LayoutPress" "hand" "LLayoutPress$Hand;", Cond.methodLink RX10 91 yX10_nodeOf, Cond.instanceMethod yX10_nodeOf, Cond.selects RX10 yX10_nodeOf yX10_nodeOf, Cond.code yX10_nodeOf cX10_nodeOf 3 (some (.object "LayoutPress$Node")), Cond.classLink RX10 208 "java/lang/IndexOutOfBoundsException", Cond.initialized "java/lang/IndexOutOfBoundsException", Cond.fieldLink RX10 15 "LayoutPress" "madeCount" "I", Cond.fieldLink RX10 11 "LayoutPress" "made" "[LLayoutPress$Node;", Cond.methodLink RX10 142 yX10_agreeOn, Cond.instanceMethod yX10_agreeOn, Cond.selects RX10 yX10_agreeOn yX10_agreeOn, Cond.code yX10_agreeOn cX10_agreeOn 5 none, Cond.fieldLink RX10 22 "LayoutPress" "terms" "LLayoutPress$Terms;", Cond.methodLink RX10 56 yX10_checkRange, Cond.static yX10_checkRange]
def wsL_printByAll_r2 : List Cond := [Cond.code yX10_checkRange cX10_checkRange 3 none, Cond.classLink RX10 234 "java/lang/IllegalArgumentException", Cond.initialized "java/lang/IllegalArgumentException", Cond.methodLink RX10 255 yX9_set, Cond.instanceMethod yX9_set, Cond.selects RX9 yX9_set yX9_set, Cond.initialized RX9, Cond.code yX9_set cX9_set 4 none, Cond.fieldLink RX9 15 "LayoutPress$Terms" "width" "I", Cond.fieldLink RX9 19 "LayoutPress$Terms" "ribbon" "I", Cond.fieldLink RX9 22 "LayoutPress$Terms" "linePrice" "I", Cond.methodLink RX10 258 yX9_measureCells, Cond.instanceMethod yX9_measureCells, Cond.selects RX9 yX9_measureCells yX9_measureCells, Cond.code yX9_measureCells cX9_measureCells 5 none, Cond.fieldLink RX9 9 "LayoutPress$Terms" "widest" "[I", Cond.fieldLink RX9 37 "LayoutPress$Kind" "CELL" "LLayoutPress$Kind;", Cond.methodLink RX9 25 yJ7_fill_53178, Cond.static yJ7_fill_53178, Cond.initialized RJ7, Cond.code yJ7_fill_53178 cJ7_fill_53178 4 none, Cond.methodLink RX9 46 yX4_bit, Cond.instanceMethod yX4_bit, Cond.selects RX4 yX4_bit yX4_bit]
def wsL_printByAll_r3 : List Cond := [Cond.initialized RX4, Cond.code yX4_bit cX4_bit 1 (some .long), Cond.fieldLink RX4 116 "LayoutPress$Node" "number" "I", Cond.methodLink RX9 50 yX9_widen, Cond.instanceMethod yX9_widen, Cond.selects RX9 yX9_widen yX9_widen, Cond.code yX9_widen cX9_widen 3 none, Cond.methodLink RX10 168 yX1_writeBestOfAll, Cond.instanceMethod yX1_writeBestOfAll, Cond.selects RX1 yX1_writeBestOfAll yX1_writeBestOfAll, Cond.initialized RX1, Cond.code yX1_writeBestOfAll cX1_writeBestOfAll 15 (some .boolean), Cond.fieldLink RX1 9 "LayoutPress$Hand" "terms" "LLayoutPress$Terms;", Cond.fieldLink RX1 18 "LayoutPress$Hand" "sheet" "LLayoutPress$Sheet;", Cond.methodLink RX1 22 yX1_layOut, Cond.instanceMethod yX1_layOut, Cond.selects RX1 yX1_layOut yX1_layOut, Cond.code yX1_layOut cX1_layOut 6 none, Cond.fieldLink RX1 26 "LayoutPress$Hand" "plan" "I", Cond.fieldLink RX1 30 "LayoutPress$Hand" "planned" "I", Cond.fieldLink RX1 33 "LayoutPress$Hand" "laterWay" "I", Cond.fieldLink RX1 36 "LayoutPress$Hand" "watched" "I", Cond.fieldLink RX1 39 "LayoutPress$Hand" "hasStopped" "Z", Cond.methodLink RX1 43 yX7_clear]
def wsL_printByAll_r4 : List Cond := [Cond.instanceMethod yX7_clear, Cond.selects RX7 yX7_clear yX7_clear, Cond.initialized RX7, Cond.code yX7_clear cX7_clear 1 none, Cond.fieldLink RX7 42 "LayoutPress$Sheet" "lineCount" "I", Cond.fieldLink RX7 46 "LayoutPress$Sheet" "isImpossible" "Z", Cond.fieldLink RX7 50 "LayoutPress$Sheet" "prices" "J", Cond.fieldLink RX7 54 "LayoutPress$Sheet" "ways" "I", Cond.fieldLink RX7 57 "LayoutPress$Sheet" "told" "I", Cond.fieldLink RX7 60 "LayoutPress$Sheet" "ownerCount" "I", Cond.fieldLink RX7 21 "LayoutPress$Sheet" "starts" "[I", Cond.methodLink RX7 24 yJ7_fill_53178, Cond.methodLink RX7 63 yX7_beginLine, Cond.instanceMethod yX7_beginLine, Cond.selects RX7 yX7_beginLine yX7_beginLine, Cond.code yX7_beginLine cX7_beginLine 2 none, Cond.fieldLink RX7 9 "LayoutPress$Sheet" "firsts" "[I", Cond.fieldLink RX7 15 "LayoutPress$Sheet" "ends" "[I", Cond.fieldLink RX7 18 "LayoutPress$Sheet" "cutCosts" "[I", Cond.methodLink RX7 67 Lib.Math.max.name, Cond.static Lib.Math.max.name, Cond.initialized "java/lang/Math", Cond.code Lib.Math.max.name Lib.Math.max.code 2 (some .int), Cond.fieldLink RX7 73 "LayoutPress$Sheet" "column" "I"]
def wsL_printByAll_r5 : List Cond := [Cond.fieldLink RX7 76 "LayoutPress$Sheet" "hasRemark" "Z", Cond.methodLink RX1 46 yX1_put, Cond.instanceMethod yX1_put, Cond.selects RX1 yX1_put yX1_put, Cond.code yX1_put cX1_put 6 none, Cond.fieldLink RX1 108 "LayoutPress$1" "$SwitchMap$LayoutPress$Kind" "[I", Cond.methodLink RX1 104 yX7_beginNode, Cond.instanceMethod yX7_beginNode, Cond.selects RX7 yX7_beginNode yX7_beginNode, Cond.code yX7_beginNode cX7_beginNode 3 none, Cond.methodLink RX7 82 yX7_present, Cond.instanceMethod yX7_present, Cond.selects RX7 yX7_present yX7_present, Cond.code yX7_present cX7_present 1 (some .int), Cond.methodLink RX1 120 ⟨"LayoutPress$Kind", "ordinal", "()I"⟩, Cond.sameMethod "LayoutPress$Kind" "java/lang/Enum" "ordinal" "()I", Cond.selects RX3 ⟨"LayoutPress$Kind", "ordinal", "()I"⟩ yJx29ce0_ordinal_8abf5, Cond.instanceMethod yJx29ce0_ordinal_8abf5, Cond.initialized RJx29ce0, Cond.code yJx29ce0_ordinal_8abf5 cJx29ce0_ordinal_8abf5 1 (some .int), Cond.fieldLink RJx29ce0 7 "java/lang/Enum" "ordinal" "I", Cond.methodLink RX1 138 yX1_decide, Cond.instanceMethod yX1_decide, Cond.selects RX1 yX1_decide yX1_decide]
def wsL_printByAll_r6 : List Cond := [Cond.code yX1_decide cX1_decide 2 (some .int), Cond.static yX10_wayIn, Cond.code yX10_wayIn cX10_wayIn 2 (some .int), Cond.methodLink RX10 273 yX10_wayBit, Cond.static yX10_wayBit, Cond.code yX10_wayBit cX10_wayBit 1 (some .int), Cond.methodLink RX1 97 yX7_tell, Cond.instanceMethod yX7_tell, Cond.selects RX7 yX7_tell yX7_tell, Cond.code yX7_tell cX7_tell 2 none, Cond.methodLink RX1 84 yX7_present, Cond.methodLink RX1 145 yX7_keepTogether, Cond.instanceMethod yX7_keepTogether, Cond.selects RX7 yX7_keepTogether yX7_keepTogether, Cond.code yX7_keepTogether cX7_keepTogether 4 none, Cond.methodLink RX1 149 yX9_padding, Cond.instanceMethod yX9_padding, Cond.selects RX9 yX9_padding yX9_padding, Cond.code yX9_padding cX9_padding 3 (some .int), Cond.methodLink RX1 153 yX7_putBlanks, Cond.instanceMethod yX7_putBlanks, Cond.selects RX7 yX7_putBlanks yX7_putBlanks, Cond.code yX7_putBlanks cX7_putBlanks 2 none, Cond.methodLink RX1 156 yX1_putLeaf]
def wsL_printByAll_r7 : List Cond := [Cond.instanceMethod yX1_putLeaf, Cond.selects RX1 yX1_putLeaf yX1_putLeaf, Cond.code yX1_putLeaf cX1_putLeaf 4 none, Cond.fieldLink RX1 163 "LayoutPress$Kind" "TAB" "LLayoutPress$Kind;", Cond.methodLink RX1 166 yX7_putTab, Cond.instanceMethod yX7_putTab, Cond.selects RX7 yX7_putTab yX7_putTab, Cond.code yX7_putTab cX7_putTab 2 none, Cond.methodLink RX1 169 yX3_endsLine, Cond.instanceMethod yX3_endsLine, Cond.selects RX3 yX3_endsLine yX3_endsLine, Cond.initialized RX3, Cond.code yX3_endsLine cX3_endsLine 1 (some .boolean), Cond.fieldLink RX3 10 "LayoutPress$Kind" "LINE" "LLayoutPress$Kind;", Cond.fieldLink RX3 13 "LayoutPress$Kind" "SOFT" "LLayoutPress$Kind;", Cond.fieldLink RX3 16 "LayoutPress$Kind" "HARD" "LLayoutPress$Kind;", Cond.methodLink RX1 172 yX7_putSigns, Cond.instanceMethod yX7_putSigns, Cond.selects RX7 yX7_putSigns yX7_putSigns, Cond.code yX7_putSigns cX7_putSigns 3 none, Cond.fieldLink RX7 32 "LayoutPress$Sheet" "owners" "[LLayoutPress$Node;", Cond.fieldLink RX7 36 "LayoutPress$Sheet" "ownerLines" "[I", Cond.fieldLink RX7 39 "LayoutPress$Sheet" "ownerColumns" "[I", Cond.fieldLink RX7 93 "LayoutPress$Kind" "REMARK" "LLayoutPress$Kind;"]
def wsL_printByAll_r8 : List Cond := [Cond.methodLink RX1 178 yX1_endLine, Cond.instanceMethod yX1_endLine, Cond.selects RX1 yX1_endLine yX1_endLine, Cond.code yX1_endLine cX1_endLine 2 none, Cond.methodLink RX1 101 yX7_beginLine, Cond.methodLink RX1 50 yX9_costOf, Cond.instanceMethod yX9_costOf, Cond.selects RX9 yX9_costOf yX9_costOf, Cond.code yX9_costOf cX9_costOf 5 (some .long), Cond.methodLink RX9 74 yX7_firstOf, Cond.instanceMethod yX7_firstOf, Cond.selects RX7 yX7_firstOf yX7_firstOf, Cond.code yX7_firstOf cX7_firstOf 2 (some .int), Cond.methodLink RX9 78 yX7_endOf, Cond.instanceMethod yX7_endOf, Cond.selects RX7 yX7_endOf yX7_endOf, Cond.code yX7_endOf cX7_endOf 2 (some .int), Cond.methodLink RX9 81 yX9_lineCost, Cond.instanceMethod yX9_lineCost, Cond.selects RX9 yX9_lineCost yX9_lineCost, Cond.code yX9_lineCost cX9_lineCost 7 (some .long), Cond.methodLink RX9 60 Lib.Math.max.name, Cond.methodLink RX1 68 yX1_lastFirstWay, Cond.instanceMethod yX1_lastFirstWay]
def wsL_printByAll_r9 : List Cond := [Cond.selects RX1 yX1_lastFirstWay yX1_lastFirstWay, Cond.code yX1_lastFirstWay cX1_lastFirstWay 2 (some .int), Cond.methodLink RX10 162 yX10_takeSheet, Cond.instanceMethod yX10_takeSheet, Cond.selects RX10 yX10_takeSheet yX10_takeSheet, Cond.code yX10_takeSheet cX10_takeSheet 1 (some .int), Cond.fieldLink RX10 52 "LayoutPress" "printed" "LLayoutPress$Sheet;", Cond.fieldLink RX10 45 "LayoutPress" "pages" "LLayoutPress$Pages;", Cond.methodLink RX10 262 yX1_exchange, Cond.instanceMethod yX1_exchange, Cond.selects RX1 yX1_exchange yX1_exchange, Cond.code yX1_exchange cX1_exchange 3 (some (.object "LayoutPress$Sheet")), Cond.methodLink RX10 266 yX5_forget, Cond.instanceMethod yX5_forget, Cond.selects RX5 yX5_forget yX5_forget, Cond.initialized RX5, Cond.code yX5_forget cX5_forget 1 none, Cond.fieldLink RX5 24 "LayoutPress$Pages" "areBroken" "Z", Cond.methodLink RX10 269 yX9_costOf]
def wsL_printByAll : List Cond := .codeWith yL_printByAll cL_printByAll 7 (some .int) [(0, 14, 17, 37), (0, 14, 21, 13), (0, 14, 25, 15)] :: ((wsL_printByAll_r1 ++ (wsL_printByAll_r2 ++ (wsL_printByAll_r3 ++ (wsL_printByAll_r4 ++ (wsL_printByAll_r5 ++ (wsL_printByAll_r6 ++ (wsL_printByAll_r7 ++ (wsL_printByAll_r8 ++ wsL_printByAll_r9)))))))) ++ wsX40 ++ wsX100 ++ wsX90 ++ wsX10 ++ wsX70 ++ wsX50 ++ (vx_atM "java/lang/ArrayIndexOutOfBoundsException" ["java/lang/IndexOutOfBoundsException", "java/lang/RuntimeException", "java/lang/Exception"]).filter goodWord ++ (vx_atS RX10 130 "java/lang/IllegalStateException" ["java/lang/RuntimeException", "java/lang/Exception"]).filter goodWord ++ (vx_atS RX10 212 "java/lang/IndexOutOfBoundsException" ["java/lang/RuntimeException", "java/lang/Exception"]).filter goodWord ++ (vx_atS RX10 238 "java/lang/IllegalArgumentException" ["java/lang/RuntimeException", "java/lang/Exception"]).filter goodWord)
def wsL_printGreedy_r1 : List Cond := [Cond.classLink RL 37 "java/lang/IndexOutOfBoundsException", Cond.methodLink RL 80 yX10_printGreedy, Cond.instanceMethod yX10_printGreedy, Cond.selects RX10 yX10_printGreedy yX10_printGreedy, Cond.initialized RX10, Cond.code yX10_printGreedy cX10_printGreedy 6 (some .int), Cond.classLink RX10 126 "java/lang/IllegalStateException", Cond.initialized "java/lang/IllegalStateException", Cond.fieldLink RX10 38 "LayoutPress" "hand" "LLayoutPress$Hand;", Cond.methodLink RX10 91 yX10_nodeOf, Cond.instanceMethod yX10_nodeOf, Cond.selects RX10 yX10_nodeOf yX10_nodeOf, Cond.code yX10_nodeOf cX10_nodeOf 3 (some (.object "LayoutPress$Node")), Cond.classLink RX10 208 "java/lang/IndexOutOfBoundsException", Cond.initialized "java/lang/IndexOutOfBoundsException", Cond.fieldLink RX10 15 "LayoutPress" "madeCount" "I", Cond.fieldLink RX10 11 "LayoutPress" "made" "[LLayoutPress$Node;", Cond.methodLink RX10 142 yX10_agreeOn, Cond.instanceMethod yX10_agreeOn, Cond.selects RX10 yX10_agreeOn yX10_agreeOn, Cond.code yX10_agreeOn cX10_agreeOn 5 none, Cond.fieldLink RX10 22 "LayoutPress" "terms" "LLayoutPress$Terms;", Cond.methodLink RX10 56 yX10_checkRange, Cond.static yX10_checkRange]
def wsL_printGreedy_r2 : List Cond := [Cond.code yX10_checkRange cX10_checkRange 3 none, Cond.classLink RX10 234 "java/lang/IllegalArgumentException", Cond.initialized "java/lang/IllegalArgumentException", Cond.methodLink RX10 255 yX9_set, Cond.instanceMethod yX9_set, Cond.selects RX9 yX9_set yX9_set, Cond.initialized RX9, Cond.code yX9_set cX9_set 4 none, Cond.fieldLink RX9 15 "LayoutPress$Terms" "width" "I", Cond.fieldLink RX9 19 "LayoutPress$Terms" "ribbon" "I", Cond.fieldLink RX9 22 "LayoutPress$Terms" "linePrice" "I", Cond.methodLink RX10 258 yX9_measureCells, Cond.instanceMethod yX9_measureCells, Cond.selects RX9 yX9_measureCells yX9_measureCells, Cond.code yX9_measureCells cX9_measureCells 5 none, Cond.fieldLink RX9 9 "LayoutPress$Terms" "widest" "[I", Cond.fieldLink RX9 37 "LayoutPress$Kind" "CELL" "LLayoutPress$Kind;", Cond.methodLink RX9 25 yJ7_fill_53178, Cond.static yJ7_fill_53178, Cond.initialized RJ7, Cond.code yJ7_fill_53178 cJ7_fill_53178 4 none, Cond.methodLink RX9 46 yX4_bit, Cond.instanceMethod yX4_bit, Cond.selects RX4 yX4_bit yX4_bit]
def wsL_printGreedy_r3 : List Cond := [Cond.initialized RX4, Cond.code yX4_bit cX4_bit 1 (some .long), Cond.fieldLink RX4 116 "LayoutPress$Node" "number" "I", Cond.methodLink RX9 50 yX9_widen, Cond.instanceMethod yX9_widen, Cond.selects RX9 yX9_widen yX9_widen, Cond.code yX9_widen cX9_widen 3 none, Cond.methodLink RX10 171 yX1_writeGreedily, Cond.instanceMethod yX1_writeGreedily, Cond.selects RX1 yX1_writeGreedily yX1_writeGreedily, Cond.initialized RX1, Cond.code yX1_writeGreedily cX1_writeGreedily 4 (some .boolean), Cond.fieldLink RX1 18 "LayoutPress$Hand" "sheet" "LLayoutPress$Sheet;", Cond.methodLink RX1 22 yX1_layOut, Cond.instanceMethod yX1_layOut, Cond.selects RX1 yX1_layOut yX1_layOut, Cond.code yX1_layOut cX1_layOut 6 none, Cond.fieldLink RX1 26 "LayoutPress$Hand" "plan" "I", Cond.fieldLink RX1 30 "LayoutPress$Hand" "planned" "I", Cond.fieldLink RX1 33 "LayoutPress$Hand" "laterWay" "I", Cond.fieldLink RX1 36 "LayoutPress$Hand" "watched" "I", Cond.fieldLink RX1 39 "LayoutPress$Hand" "hasStopped" "Z", Cond.methodLink RX1 43 yX7_clear, Cond.instanceMethod yX7_clear]
def wsL_printGreedy_r4 : List Cond := [Cond.selects RX7 yX7_clear yX7_clear, Cond.initialized RX7, Cond.code yX7_clear cX7_clear 1 none, Cond.fieldLink RX7 42 "LayoutPress$Sheet" "lineCount" "I", Cond.fieldLink RX7 46 "LayoutPress$Sheet" "isImpossible" "Z", Cond.fieldLink RX7 50 "LayoutPress$Sheet" "prices" "J", Cond.fieldLink RX7 54 "LayoutPress$Sheet" "ways" "I", Cond.fieldLink RX7 57 "LayoutPress$Sheet" "told" "I", Cond.fieldLink RX7 60 "LayoutPress$Sheet" "ownerCount" "I", Cond.fieldLink RX7 21 "LayoutPress$Sheet" "starts" "[I", Cond.methodLink RX7 24 yJ7_fill_53178, Cond.methodLink RX7 63 yX7_beginLine, Cond.instanceMethod yX7_beginLine, Cond.selects RX7 yX7_beginLine yX7_beginLine, Cond.code yX7_beginLine cX7_beginLine 2 none, Cond.fieldLink RX7 9 "LayoutPress$Sheet" "firsts" "[I", Cond.fieldLink RX7 15 "LayoutPress$Sheet" "ends" "[I", Cond.fieldLink RX7 18 "LayoutPress$Sheet" "cutCosts" "[I", Cond.methodLink RX7 67 Lib.Math.max.name, Cond.static Lib.Math.max.name, Cond.initialized "java/lang/Math", Cond.code Lib.Math.max.name Lib.Math.max.code 2 (some .int), Cond.fieldLink RX7 73 "LayoutPress$Sheet" "column" "I", Cond.fieldLink RX7 76 "LayoutPress$Sheet" "hasRemark" "Z"]
def wsL_printGreedy_r5 : List Cond := [Cond.methodLink RX1 46 yX1_put, Cond.instanceMethod yX1_put, Cond.selects RX1 yX1_put yX1_put, Cond.code yX1_put cX1_put 6 none, Cond.fieldLink RX1 108 "LayoutPress$1" "$SwitchMap$LayoutPress$Kind" "[I", Cond.fieldLink RX1 9 "LayoutPress$Hand" "terms" "LLayoutPress$Terms;", Cond.methodLink RX1 104 yX7_beginNode, Cond.instanceMethod yX7_beginNode, Cond.selects RX7 yX7_beginNode yX7_beginNode, Cond.code yX7_beginNode cX7_beginNode 3 none, Cond.methodLink RX7 82 yX7_present, Cond.instanceMethod yX7_present, Cond.selects RX7 yX7_present yX7_present, Cond.code yX7_present cX7_present 1 (some .int), Cond.methodLink RX1 120 ⟨"LayoutPress$Kind", "ordinal", "()I"⟩, Cond.sameMethod "LayoutPress$Kind" "java/lang/Enum" "ordinal" "()I", Cond.selects RX3 ⟨"LayoutPress$Kind", "ordinal", "()I"⟩ yJx29ce0_ordinal_8abf5, Cond.instanceMethod yJx29ce0_ordinal_8abf5, Cond.initialized RJx29ce0, Cond.code yJx29ce0_ordinal_8abf5 cJx29ce0_ordinal_8abf5 1 (some .int), Cond.fieldLink RJx29ce0 7 "java/lang/Enum" "ordinal" "I", Cond.methodLink RX1 138 yX1_decide, Cond.instanceMethod yX1_decide, Cond.selects RX1 yX1_decide yX1_decide]
def wsL_printGreedy_r6 : List Cond := [Cond.code yX1_decide cX1_decide 2 (some .int), Cond.static yX10_wayIn, Cond.code yX10_wayIn cX10_wayIn 2 (some .int), Cond.methodLink RX10 273 yX10_wayBit, Cond.static yX10_wayBit, Cond.code yX10_wayBit cX10_wayBit 1 (some .int), Cond.methodLink RX1 97 yX7_tell, Cond.instanceMethod yX7_tell, Cond.selects RX7 yX7_tell yX7_tell, Cond.code yX7_tell cX7_tell 2 none, Cond.methodLink RX1 84 yX7_present, Cond.methodLink RX1 145 yX7_keepTogether, Cond.instanceMethod yX7_keepTogether, Cond.selects RX7 yX7_keepTogether yX7_keepTogether, Cond.code yX7_keepTogether cX7_keepTogether 4 none, Cond.methodLink RX1 149 yX9_padding, Cond.instanceMethod yX9_padding, Cond.selects RX9 yX9_padding yX9_padding, Cond.code yX9_padding cX9_padding 3 (some .int), Cond.methodLink RX1 153 yX7_putBlanks, Cond.instanceMethod yX7_putBlanks, Cond.selects RX7 yX7_putBlanks yX7_putBlanks, Cond.code yX7_putBlanks cX7_putBlanks 2 none, Cond.methodLink RX1 156 yX1_putLeaf]
def wsL_printGreedy_r7 : List Cond := [Cond.instanceMethod yX1_putLeaf, Cond.selects RX1 yX1_putLeaf yX1_putLeaf, Cond.code yX1_putLeaf cX1_putLeaf 4 none, Cond.fieldLink RX1 163 "LayoutPress$Kind" "TAB" "LLayoutPress$Kind;", Cond.methodLink RX1 166 yX7_putTab, Cond.instanceMethod yX7_putTab, Cond.selects RX7 yX7_putTab yX7_putTab, Cond.code yX7_putTab cX7_putTab 2 none, Cond.methodLink RX1 169 yX3_endsLine, Cond.instanceMethod yX3_endsLine, Cond.selects RX3 yX3_endsLine yX3_endsLine, Cond.initialized RX3, Cond.code yX3_endsLine cX3_endsLine 1 (some .boolean), Cond.fieldLink RX3 10 "LayoutPress$Kind" "LINE" "LLayoutPress$Kind;", Cond.fieldLink RX3 13 "LayoutPress$Kind" "SOFT" "LLayoutPress$Kind;", Cond.fieldLink RX3 16 "LayoutPress$Kind" "HARD" "LLayoutPress$Kind;", Cond.methodLink RX1 172 yX7_putSigns, Cond.instanceMethod yX7_putSigns, Cond.selects RX7 yX7_putSigns yX7_putSigns, Cond.code yX7_putSigns cX7_putSigns 3 none, Cond.fieldLink RX7 32 "LayoutPress$Sheet" "owners" "[LLayoutPress$Node;", Cond.fieldLink RX7 36 "LayoutPress$Sheet" "ownerLines" "[I", Cond.fieldLink RX7 39 "LayoutPress$Sheet" "ownerColumns" "[I", Cond.fieldLink RX7 93 "LayoutPress$Kind" "REMARK" "LLayoutPress$Kind;"]
def wsL_printGreedy_r8 : List Cond := [Cond.methodLink RX1 178 yX1_endLine, Cond.instanceMethod yX1_endLine, Cond.selects RX1 yX1_endLine yX1_endLine, Cond.code yX1_endLine cX1_endLine 2 none, Cond.methodLink RX1 101 yX7_beginLine, Cond.methodLink RX1 80 yX1_presentLineFits, Cond.instanceMethod yX1_presentLineFits, Cond.selects RX1 yX1_presentLineFits yX1_presentLineFits, Cond.code yX1_presentLineFits cX1_presentLineFits 2 (some .boolean), Cond.methodLink RX1 87 yX7_firstOf, Cond.instanceMethod yX7_firstOf, Cond.selects RX7 yX7_firstOf yX7_firstOf, Cond.code yX7_firstOf cX7_firstOf 2 (some .int), Cond.methodLink RX1 90 yX7_endOf, Cond.instanceMethod yX7_endOf, Cond.selects RX7 yX7_endOf yX7_endOf, Cond.code yX7_endOf cX7_endOf 2 (some .int), Cond.methodLink RX1 93 yX9_holds, Cond.instanceMethod yX9_holds, Cond.selects RX9 yX9_holds yX9_holds, Cond.code yX9_holds cX9_holds 3 (some .boolean), Cond.methodLink RX10 162 yX10_takeSheet, Cond.instanceMethod yX10_takeSheet, Cond.selects RX10 yX10_takeSheet yX10_takeSheet]
def wsL_printGreedy_r9 : List Cond := [Cond.code yX10_takeSheet cX10_takeSheet 1 (some .int), Cond.fieldLink RX10 52 "LayoutPress" "printed" "LLayoutPress$Sheet;", Cond.fieldLink RX10 45 "LayoutPress" "pages" "LLayoutPress$Pages;", Cond.methodLink RX10 262 yX1_exchange, Cond.instanceMethod yX1_exchange, Cond.selects RX1 yX1_exchange yX1_exchange, Cond.code yX1_exchange cX1_exchange 3 (some (.object "LayoutPress$Sheet")), Cond.methodLink RX10 266 yX5_forget, Cond.instanceMethod yX5_forget, Cond.selects RX5 yX5_forget yX5_forget, Cond.initialized RX5, Cond.code yX5_forget cX5_forget 1 none, Cond.fieldLink RX5 24 "LayoutPress$Pages" "areBroken" "Z", Cond.methodLink RX10 269 yX9_costOf, Cond.instanceMethod yX9_costOf, Cond.selects RX9 yX9_costOf yX9_costOf, Cond.code yX9_costOf cX9_costOf 5 (some .long), Cond.methodLink RX9 74 yX7_firstOf, Cond.methodLink RX9 78 yX7_endOf, Cond.methodLink RX9 81 yX9_lineCost, Cond.instanceMethod yX9_lineCost, Cond.selects RX9 yX9_lineCost yX9_lineCost, Cond.code yX9_lineCost cX9_lineCost 7 (some .long), Cond.methodLink RX9 60 Lib.Math.max.name]
def wsL_printGreedy : List Cond := .codeWith yL_printGreedy cL_printGreedy 7 (some .int) [(0, 14, 17, 37), (0, 14, 21, 13), (0, 14, 25, 15)] :: ((wsL_printGreedy_r1 ++ (wsL_printGreedy_r2 ++ (wsL_printGreedy_r3 ++ (wsL_printGreedy_r4 ++ (wsL_printGreedy_r5 ++ (wsL_printGreedy_r6 ++ (wsL_printGreedy_r7 ++ (wsL_printGreedy_r8 ++ wsL_printGreedy_r9)))))))) ++ wsX100 ++ wsX90 ++ wsX40 ++ wsX10 ++ wsX70 ++ wsX50 ++ (vx_atM "java/lang/ArrayIndexOutOfBoundsException" ["java/lang/IndexOutOfBoundsException", "java/lang/RuntimeException", "java/lang/Exception"]).filter goodWord ++ (vx_atS RX10 130 "java/lang/IllegalStateException" ["java/lang/RuntimeException", "java/lang/Exception"]).filter goodWord ++ (vx_atS RX10 212 "java/lang/IndexOutOfBoundsException" ["java/lang/RuntimeException", "java/lang/Exception"]).filter goodWord ++ (vx_atS RX10 238 "java/lang/IllegalArgumentException" ["java/lang/RuntimeException", "java/lang/Exception"]).filter goodWord)
def wsL_length : List Cond := .codeWith yL_length cL_length 4 (some .int) [(0, 9, 12, 37)] :: ([.classLink RL 37 "java/lang/IndexOutOfBoundsException", .methodLink RL 83 yX10_length, .instanceMethod yX10_length, .selects RX10 yX10_length yX10_length, .initialized RX10, .code yX10_length cX10_length 2 (some .int), .fieldLink RX10 52 "LayoutPress" "printed" "LLayoutPress$Sheet;", .methodLink RX10 179 yX10_checkLine, .instanceMethod yX10_checkLine, .selects RX10 yX10_checkLine yX10_checkLine, .code yX10_checkLine cX10_checkLine 2 none, .classLink RX10 208 "java/lang/IndexOutOfBoundsException", .initialized "java/lang/IndexOutOfBoundsException", .methodLink RX10 183 yX7_endOf, .instanceMethod yX7_endOf, .selects RX7 yX7_endOf yX7_endOf, .initialized RX7, .code yX7_endOf cX7_endOf 2 (some .int), .fieldLink RX7 42 "LayoutPress$Sheet" "lineCount" "I", .fieldLink RX7 15 "LayoutPress$Sheet" "ends" "[I"] ++ wsX100 ++ wsX70 ++ (vx_atM "java/lang/ArrayIndexOutOfBoundsException" ["java/lang/IndexOutOfBoundsException", "java/lang/RuntimeException", "java/lang/Exception"]).filter goodWord ++ (vx_atS RX10 212 "java/lang/IndexOutOfBoundsException" ["java/lang/RuntimeException", "java/lang/Exception"]).filter goodWord)
def wsL_signAt_r1 : List Cond := [Cond.classLink RL 37 "java/lang/IndexOutOfBoundsException", Cond.methodLink RL 86 yX10_signAt, Cond.instanceMethod yX10_signAt, Cond.selects RX10 yX10_signAt yX10_signAt, Cond.initialized RX10, Cond.code yX10_signAt cX10_signAt 4 (some .char), Cond.fieldLink RX10 52 "LayoutPress" "printed" "LLayoutPress$Sheet;", Cond.methodLink RX10 187 yX10_checkColumn, Cond.instanceMethod yX10_checkColumn, Cond.selects RX10 yX10_checkColumn yX10_checkColumn, Cond.code yX10_checkColumn cX10_checkColumn 3 none, Cond.classLink RX10 208 "java/lang/IndexOutOfBoundsException", Cond.initialized "java/lang/IndexOutOfBoundsException", Cond.methodLink RX10 179 yX10_checkLine, Cond.instanceMethod yX10_checkLine, Cond.selects RX10 yX10_checkLine yX10_checkLine, Cond.code yX10_checkLine cX10_checkLine 2 none, Cond.methodLink RX10 183 yX7_endOf, Cond.instanceMethod yX7_endOf, Cond.selects RX7 yX7_endOf yX7_endOf, Cond.initialized RX7, Cond.code yX7_endOf cX7_endOf 2 (some .int), Cond.fieldLink RX7 42 "LayoutPress$Sheet" "lineCount" "I", Cond.fieldLink RX7 15 "LayoutPress$Sheet" "ends" "[I"]
def wsL_signAt_r2 : List Cond := [Cond.methodLink RX10 191 yX7_ownerOf, Cond.instanceMethod yX7_ownerOf, Cond.selects RX7 yX7_ownerOf yX7_ownerOf, Cond.code yX7_ownerOf cX7_ownerOf 6 (some (.object "LayoutPress$Node")), Cond.fieldLink RX7 60 "LayoutPress$Sheet" "ownerCount" "I", Cond.fieldLink RX7 32 "LayoutPress$Sheet" "owners" "[LLayoutPress$Node;", Cond.fieldLink RX7 39 "LayoutPress$Sheet" "ownerColumns" "[I", Cond.fieldLink RX7 36 "LayoutPress$Sheet" "ownerLines" "[I", Cond.methodLink RX10 195 yX4_sign, Cond.instanceMethod yX4_sign, Cond.selects RX4 yX4_sign yX4_sign, Cond.initialized RX4, Cond.code yX4_sign cX4_sign 1 (some .char), Cond.fieldLink RX4 9 "LayoutPress$Node" "kind" "LLayoutPress$Kind;", Cond.fieldLink RX4 123 "LayoutPress$Kind" "REMARK" "LLayoutPress$Kind;", Cond.fieldLink RX4 15 "LayoutPress$Node" "value" "I"]
def wsL_signAt : List Cond := .codeWith yL_signAt cL_signAt 5 (some .int) [(0, 10, 13, 37)] :: ((wsL_signAt_r1 ++ wsL_signAt_r2) ++ wsX100 ++ wsX70 ++ wsX40 ++ (vx_atM "java/lang/ArrayIndexOutOfBoundsException" ["java/lang/IndexOutOfBoundsException", "java/lang/RuntimeException", "java/lang/Exception"]).filter goodWord ++ (vx_atS RX10 212 "java/lang/IndexOutOfBoundsException" ["java/lang/RuntimeException", "java/lang/Exception"]).filter goodWord)
def wsL_nodeAt_r1 : List Cond := [Cond.classLink RL 37 "java/lang/IndexOutOfBoundsException", Cond.methodLink RL 90 yX10_nodeAt, Cond.instanceMethod yX10_nodeAt, Cond.selects RX10 yX10_nodeAt yX10_nodeAt, Cond.initialized RX10, Cond.code yX10_nodeAt cX10_nodeAt 4 (some .int), Cond.fieldLink RX10 52 "LayoutPress" "printed" "LLayoutPress$Sheet;", Cond.methodLink RX10 187 yX10_checkColumn, Cond.instanceMethod yX10_checkColumn, Cond.selects RX10 yX10_checkColumn yX10_checkColumn, Cond.code yX10_checkColumn cX10_checkColumn 3 none, Cond.classLink RX10 208 "java/lang/IndexOutOfBoundsException", Cond.initialized "java/lang/IndexOutOfBoundsException", Cond.methodLink RX10 179 yX10_checkLine, Cond.instanceMethod yX10_checkLine, Cond.selects RX10 yX10_checkLine yX10_checkLine, Cond.code yX10_checkLine cX10_checkLine 2 none, Cond.methodLink RX10 183 yX7_endOf, Cond.instanceMethod yX7_endOf, Cond.selects RX7 yX7_endOf yX7_endOf, Cond.initialized RX7, Cond.code yX7_endOf cX7_endOf 2 (some .int), Cond.fieldLink RX7 42 "LayoutPress$Sheet" "lineCount" "I", Cond.fieldLink RX7 15 "LayoutPress$Sheet" "ends" "[I"]
def wsL_nodeAt_r2 : List Cond := [Cond.methodLink RX10 191 yX7_ownerOf, Cond.instanceMethod yX7_ownerOf, Cond.selects RX7 yX7_ownerOf yX7_ownerOf, Cond.code yX7_ownerOf cX7_ownerOf 6 (some (.object "LayoutPress$Node")), Cond.fieldLink RX7 60 "LayoutPress$Sheet" "ownerCount" "I", Cond.fieldLink RX7 32 "LayoutPress$Sheet" "owners" "[LLayoutPress$Node;", Cond.fieldLink RX7 39 "LayoutPress$Sheet" "ownerColumns" "[I", Cond.fieldLink RX7 36 "LayoutPress$Sheet" "ownerLines" "[I"]
def wsL_nodeAt : List Cond := .codeWith yL_nodeAt cL_nodeAt 5 (some .int) [(0, 10, 13, 37)] :: ((wsL_nodeAt_r1 ++ wsL_nodeAt_r2) ++ wsX100 ++ wsX40 ++ wsX70 ++ (vx_atM "java/lang/ArrayIndexOutOfBoundsException" ["java/lang/IndexOutOfBoundsException", "java/lang/RuntimeException", "java/lang/Exception"]).filter goodWord ++ (vx_atS RX10 212 "java/lang/IndexOutOfBoundsException" ["java/lang/RuntimeException", "java/lang/Exception"]).filter goodWord)
def wsL_placeOf : List Cond := .codeWith yL_placeOf cL_placeOf 4 (some .int) [(0, 9, 12, 37)] :: ([.classLink RL 37 "java/lang/IndexOutOfBoundsException", .methodLink RL 93 yX10_placeOf, .instanceMethod yX10_placeOf, .selects RX10 yX10_placeOf yX10_placeOf, .initialized RX10, .code yX10_placeOf cX10_placeOf 2 (some .int), .fieldLink RX10 52 "LayoutPress" "printed" "LLayoutPress$Sheet;", .methodLink RX10 91 yX10_nodeOf, .instanceMethod yX10_nodeOf, .selects RX10 yX10_nodeOf yX10_nodeOf, .code yX10_nodeOf cX10_nodeOf 3 (some (.object "LayoutPress$Node")), .classLink RX10 208 "java/lang/IndexOutOfBoundsException", .initialized "java/lang/IndexOutOfBoundsException", .fieldLink RX10 15 "LayoutPress" "madeCount" "I", .fieldLink RX10 11 "LayoutPress" "made" "[LLayoutPress$Node;", .methodLink RX10 202 yX7_startOf, .instanceMethod yX7_startOf, .selects RX7 yX7_startOf yX7_startOf, .initialized RX7, .code yX7_startOf cX7_startOf 3 (some .int), .fieldLink RX7 21 "LayoutPress$Sheet" "starts" "[I"] ++ wsX100 ++ wsX40 ++ wsX70 ++ (vx_atM "java/lang/ArrayIndexOutOfBoundsException" ["java/lang/IndexOutOfBoundsException", "java/lang/RuntimeException", "java/lang/Exception"]).filter goodWord ++ (vx_atS RX10 212 "java/lang/IndexOutOfBoundsException" ["java/lang/RuntimeException", "java/lang/Exception"]).filter goodWord)
def wsL_wayAt : List Cond := .codeWith yL_wayAt cL_wayAt 4 (some .int) [(0, 9, 12, 37)] :: ([.classLink RL 37 "java/lang/IndexOutOfBoundsException", .methodLink RL 96 yX10_wayAt, .instanceMethod yX10_wayAt, .selects RX10 yX10_wayAt yX10_wayAt, .initialized RX10, .code yX10_wayAt cX10_wayAt 2 (some .int), .classLink RX10 208 "java/lang/IndexOutOfBoundsException", .initialized "java/lang/IndexOutOfBoundsException", .fieldLink RX10 52 "LayoutPress" "printed" "LLayoutPress$Sheet;", .methodLink RX10 216 yX10_wayIn, .static yX10_wayIn, .code yX10_wayIn cX10_wayIn 2 (some .int), .methodLink RX10 273 yX10_wayBit, .static yX10_wayBit, .code yX10_wayBit cX10_wayBit 1 (some .int)] ++ wsX100 ++ wsX70 ++ (vx_atM "java/lang/ArrayIndexOutOfBoundsException" ["java/lang/IndexOutOfBoundsException", "java/lang/RuntimeException", "java/lang/Exception"]).filter goodWord ++ (vx_atS RX10 212 "java/lang/IndexOutOfBoundsException" ["java/lang/RuntimeException", "java/lang/Exception"]).filter goodWord)
def wsL_breakPages_r1 : List Cond := [Cond.classLink RL 13 "java/lang/IllegalArgumentException", Cond.methodLink RL 99 yX10_breakPages, Cond.instanceMethod yX10_breakPages, Cond.selects RX10 yX10_breakPages yX10_breakPages, Cond.initialized RX10, Cond.code yX10_breakPages cX10_breakPages 2 (some .int), Cond.classLink RX10 126 "java/lang/IllegalStateException", Cond.initialized "java/lang/IllegalStateException", Cond.fieldLink RX10 52 "LayoutPress" "printed" "LLayoutPress$Sheet;", Cond.fieldLink RX10 45 "LayoutPress" "pages" "LLayoutPress$Pages;", Cond.methodLink RX10 56 yX10_checkRange, Cond.static yX10_checkRange, Cond.code yX10_checkRange cX10_checkRange 3 none, Cond.classLink RX10 234 "java/lang/IllegalArgumentException", Cond.initialized "java/lang/IllegalArgumentException", Cond.methodLink RX10 222 yX5_breakSheet, Cond.instanceMethod yX5_breakSheet, Cond.selects RX5 yX5_breakSheet yX5_breakSheet, Cond.initialized RX5, Cond.code yX5_breakSheet cX5_breakSheet 5 (some .int), Cond.methodLink RX5 34 Lib.Math.min.name, Cond.static Lib.Math.min.name, Cond.initialized "java/lang/Math", Cond.code Lib.Math.min.name Lib.Math.min.code 2 (some .int)]
def wsL_breakPages_r2 : List Cond := [Cond.fieldLink RX5 15 "LayoutPress$Pages" "cost" "[I", Cond.fieldLink RX5 18 "LayoutPress$Pages" "count" "[I", Cond.fieldLink RX5 24 "LayoutPress$Pages" "areBroken" "Z", Cond.methodLink RX5 40 yX5_choosePage, Cond.instanceMethod yX5_choosePage, Cond.selects RX5 yX5_choosePage yX5_choosePage, Cond.code yX5_choosePage cX5_choosePage 12 none, Cond.fieldLink RX5 21 "LayoutPress$Pages" "firstHeight" "[I", Cond.methodLink RX5 48 yX7_cutCostOf, Cond.instanceMethod yX7_cutCostOf, Cond.selects RX7 yX7_cutCostOf yX7_cutCostOf, Cond.initialized RX7, Cond.code yX7_cutCostOf cX7_cutCostOf 2 (some .int), Cond.fieldLink RX7 42 "LayoutPress$Sheet" "lineCount" "I", Cond.fieldLink RX7 18 "LayoutPress$Sheet" "cutCosts" "[I", Cond.methodLink RX5 44 yX5_numberLines, Cond.instanceMethod yX5_numberLines, Cond.selects RX5 yX5_numberLines yX5_numberLines, Cond.code yX5_numberLines cX5_numberLines 5 none, Cond.fieldLink RX5 9 "LayoutPress$Pages" "pageOfLine" "[I"]
def wsL_breakPages : List Cond := .codeWith yL_breakPages cL_breakPages 4 (some .int) [(0, 9, 12, 13), (0, 9, 15, 15)] :: ((wsL_breakPages_r1 ++ wsL_breakPages_r2) ++ wsX100 ++ wsX70 ++ wsX50 ++ (vx_atM "java/lang/ArrayIndexOutOfBoundsException" ["java/lang/IndexOutOfBoundsException", "java/lang/RuntimeException", "java/lang/Exception"]).filter goodWord ++ (vx_atS RX10 130 "java/lang/IllegalStateException" ["java/lang/RuntimeException", "java/lang/Exception"]).filter goodWord ++ (vx_atS RX10 238 "java/lang/IllegalArgumentException" ["java/lang/RuntimeException", "java/lang/Exception"]).filter goodWord)
def wsL_pageOf : List Cond := .codeWith yL_pageOf cL_pageOf 4 (some .int) [(0, 9, 12, 37), (0, 9, 15, 15)] :: ([.classLink RL 37 "java/lang/IndexOutOfBoundsException", .methodLink RL 102 yX10_pageOf, .instanceMethod yX10_pageOf, .selects RX10 yX10_pageOf yX10_pageOf, .initialized RX10, .code yX10_pageOf cX10_pageOf 2 (some .int), .classLink RX10 126 "java/lang/IllegalStateException", .initialized "java/lang/IllegalStateException", .fieldLink RX10 45 "LayoutPress" "pages" "LLayoutPress$Pages;", .methodLink RX10 179 yX10_checkLine, .instanceMethod yX10_checkLine, .selects RX10 yX10_checkLine yX10_checkLine, .code yX10_checkLine cX10_checkLine 2 none, .classLink RX10 208 "java/lang/IndexOutOfBoundsException", .initialized "java/lang/IndexOutOfBoundsException", .fieldLink RX10 52 "LayoutPress" "printed" "LLayoutPress$Sheet;", .methodLink RX10 231 yX5_pageWith, .instanceMethod yX5_pageWith, .selects RX5 yX5_pageWith yX5_pageWith, .initialized RX5, .code yX5_pageWith cX5_pageWith 2 (some .int), .fieldLink RX5 9 "LayoutPress$Pages" "pageOfLine" "[I"] ++ wsX100 ++ wsX50 ++ wsX70 ++ (vx_atM "java/lang/ArrayIndexOutOfBoundsException" ["java/lang/IndexOutOfBoundsException", "java/lang/RuntimeException", "java/lang/Exception"]).filter goodWord ++ (vx_atS RX10 130 "java/lang/IllegalStateException" ["java/lang/RuntimeException", "java/lang/Exception"]).filter goodWord ++ (vx_atS RX10 212 "java/lang/IndexOutOfBoundsException" ["java/lang/RuntimeException", "java/lang/Exception"]).filter goodWord)
def wsL_law0_r1 : List Cond := [Cond.classLink RL 8 RX10, Cond.instantiable RX10 7, Cond.initialized RX10, Cond.classLink RL 106 RX11, Cond.instantiable RX11 87, Cond.initialized RX11, Cond.arrayClass .long, Cond.methodLink RL 105 yX10_init, Cond.instanceMethod yX10_init, Cond.code yX10_init cX10_init 1 none, Cond.methodLink RX10 3 objectInit, Cond.instanceMethod objectInit, Cond.code objectInit ⟨#[0xb1]⟩ 1 none, Cond.classLink RX10 9 RX4, Cond.fieldLink RX10 11 "LayoutPress" "made" "[LLayoutPress$Node;", Cond.fieldLink RX10 15 "LayoutPress" "madeCount" "I", Cond.classLink RX10 19 RX9, Cond.instantiable RX9 4, Cond.initialized RX9, Cond.fieldLink RX10 22 "LayoutPress" "terms" "LLayoutPress$Terms;", Cond.classLink RX10 26 RX6, Cond.instantiable RX6 6, Cond.initialized RX6, Cond.fieldLink RX10 31 "LayoutPress" "search" "LLayoutPress$Search;"]
def wsL_law0_r2 : List Cond := [Cond.classLink RX10 35 RX1, Cond.instantiable RX1 7, Cond.initialized RX1, Cond.fieldLink RX10 38 "LayoutPress" "hand" "LLayoutPress$Hand;", Cond.classLink RX10 42 RX5, Cond.instantiable RX5 5, Cond.initialized RX5, Cond.fieldLink RX10 45 "LayoutPress" "pages" "LLayoutPress$Pages;", Cond.classLink RX10 49 RX7, Cond.instantiable RX7 15, Cond.initialized RX7, Cond.fieldLink RX10 52 "LayoutPress" "printed" "LLayoutPress$Sheet;", Cond.methodLink RX10 21 yX9_init, Cond.instanceMethod yX9_init, Cond.code yX9_init cX9_init 1 none, Cond.methodLink RX9 3 objectInit, Cond.arrayClass .int, Cond.fieldLink RX9 9 "LayoutPress$Terms" "widest" "[I", Cond.methodLink RX10 28 yX6_init, Cond.instanceMethod yX6_init, Cond.code yX6_init cX6_init 2 none, Cond.methodLink RX6 3 objectInit, Cond.fieldLink RX6 9 "LayoutPress$Search" "terms" "LLayoutPress$Terms;", Cond.classLink RX6 15 RX2]
def wsL_law0_r3 : List Cond := [Cond.instantiable RX2 6, Cond.initialized RX2, Cond.fieldLink RX6 18 "LayoutPress$Search" "held" "LLayoutPress$Held;", Cond.classLink RX6 22 RX8, Cond.instantiable RX8 18, Cond.initialized RX8, Cond.fieldLink RX6 27 "LayoutPress$Search" "states" "LLayoutPress$States;", Cond.methodLink RX6 17 yX2_init, Cond.instanceMethod yX2_init, Cond.code yX2_init cX2_init 1 none, Cond.methodLink RX2 3 objectInit, Cond.fieldLink RX2 11 "LayoutPress$Held" "places" "[I", Cond.fieldLink RX2 15 "LayoutPress$Held" "ways" "[I", Cond.fieldLink RX2 18 "LayoutPress$Held" "order" "[I", Cond.fieldLink RX2 21 "LayoutPress$Held" "begins" "[I", Cond.methodLink RX6 24 yX8_init, Cond.instanceMethod yX8_init, Cond.code yX8_init cX8_init 2 none, Cond.methodLink RX8 3 objectInit, Cond.fieldLink RX8 9 "LayoutPress$States" "held" "LLayoutPress$Held;", Cond.fieldLink RX8 15 "LayoutPress$States" "around" "[I", Cond.fieldLink RX8 19 "LayoutPress$States" "column" "[I", Cond.fieldLink RX8 22 "LayoutPress$States" "first" "[I", Cond.fieldLink RX8 25 "LayoutPress$States" "hasRemark" "[I"]
def wsL_law0_r4 : List Cond := [Cond.fieldLink RX8 28 "LayoutPress$States" "paid" "[J", Cond.fieldLink RX8 32 "LayoutPress$States" "weight" "[J", Cond.fieldLink RX8 35 "LayoutPress$States" "ways" "[I", Cond.fieldLink RX8 38 "LayoutPress$States" "told" "[I", Cond.fieldLink RX8 41 "LayoutPress$States" "floor" "[J", Cond.fieldLink RX8 44 "LayoutPress$States" "link" "[I", Cond.fieldLink RX8 47 "LayoutPress$States" "head" "[I", Cond.fieldLink RX8 50 "LayoutPress$States" "slots" "[I", Cond.fieldLink RX8 53 "LayoutPress$States" "slotCount" "I", Cond.methodLink RX10 37 yX1_init, Cond.instanceMethod yX1_init, Cond.code yX1_init cX1_init 2 none, Cond.methodLink RX1 3 objectInit, Cond.fieldLink RX1 9 "LayoutPress$Hand" "terms" "LLayoutPress$Terms;", Cond.classLink RX1 15 RX7, Cond.fieldLink RX1 18 "LayoutPress$Hand" "sheet" "LLayoutPress$Sheet;", Cond.methodLink RX1 17 yX7_init, Cond.instanceMethod yX7_init, Cond.code yX7_init cX7_init 1 none, Cond.methodLink RX7 3 objectInit, Cond.fieldLink RX7 9 "LayoutPress$Sheet" "firsts" "[I", Cond.fieldLink RX7 15 "LayoutPress$Sheet" "ends" "[I", Cond.fieldLink RX7 18 "LayoutPress$Sheet" "cutCosts" "[I", Cond.fieldLink RX7 21 "LayoutPress$Sheet" "starts" "[I"]
def wsL_law0_r5 : List Cond := [Cond.classLink RX7 30 RX4, Cond.fieldLink RX7 32 "LayoutPress$Sheet" "owners" "[LLayoutPress$Node;", Cond.fieldLink RX7 36 "LayoutPress$Sheet" "ownerLines" "[I", Cond.fieldLink RX7 39 "LayoutPress$Sheet" "ownerColumns" "[I", Cond.methodLink RX7 24 yJ7_fill_53178, Cond.static yJ7_fill_53178, Cond.initialized RJ7, Cond.code yJ7_fill_53178 cJ7_fill_53178 4 none, Cond.methodLink RX10 44 yX5_init, Cond.instanceMethod yX5_init, Cond.code yX5_init cX5_init 1 none, Cond.methodLink RX5 3 objectInit, Cond.fieldLink RX5 9 "LayoutPress$Pages" "pageOfLine" "[I", Cond.fieldLink RX5 15 "LayoutPress$Pages" "cost" "[I", Cond.fieldLink RX5 18 "LayoutPress$Pages" "count" "[I", Cond.fieldLink RX5 21 "LayoutPress$Pages" "firstHeight" "[I", Cond.methodLink RX10 51 yX7_init, Cond.methodLink RL 108 yX11_init, Cond.instanceMethod yX11_init, Cond.code yX11_init cX11_init 1 none, Cond.methodLink RX11 1 objectInit, Cond.fieldLink RX11 7 "LayoutPressModel" "kinds" "[I", Cond.fieldLink RX11 13 "LayoutPressModel" "ones" "[I", Cond.fieldLink RX11 16 "LayoutPressModel" "counts" "[I"]
def wsL_law0_r6 : List Cond := [Cond.fieldLink RX11 19 "LayoutPressModel" "firsts" "[I", Cond.fieldLink RX11 22 "LayoutPressModel" "seconds" "[I", Cond.fieldLink RX11 25 "LayoutPressModel" "sizes" "[I", Cond.fieldLink RX11 28 "LayoutPressModel" "flatWays" "[I", Cond.fieldLink RX11 31 "LayoutPressModel" "ways" "[I", Cond.fieldLink RX11 34 "LayoutPressModel" "flatLayouts" "[I", Cond.fieldLink RX11 37 "LayoutPressModel" "layouts" "[I", Cond.fieldLink RX11 40 "LayoutPressModel" "flatWidths" "[I", Cond.arrayClass .boolean, Cond.fieldLink RX11 43 "LayoutPressModel" "isNoCell" "[Z", Cond.fieldLink RX11 47 "LayoutPressModel" "stepKinds" "[I", Cond.fieldLink RX11 50 "LayoutPressModel" "stepNodes" "[I", Cond.fieldLink RX11 53 "LayoutPressModel" "enters" "[I", Cond.fieldLink RX11 56 "LayoutPressModel" "mids" "[I", Cond.fieldLink RX11 59 "LayoutPressModel" "leaves" "[I", Cond.fieldLink RX11 62 "LayoutPressModel" "isForWithin" "[Z", Cond.fieldLink RX11 65 "LayoutPressModel" "isForBehind" "[Z", Cond.fieldLink RX11 68 "LayoutPressModel" "regions" "[I", Cond.fieldLink RX11 71 "LayoutPressModel" "lastEnds" "[I", Cond.fieldLink RX11 74 "LayoutPressModel" "work" "[I", Cond.fieldLink RX11 77 "LayoutPressModel" "cellWidths" "[I", Cond.constant RX11 80 (100000), Cond.fieldLink RX11 81 "LayoutPressModel" "columns" "[I", Cond.fieldLink RX11 84 "LayoutPressModel" "starts" "[I"]
def wsL_law0_r7 : List Cond := [Cond.fieldLink RX11 87 "LayoutPressModel" "ends" "[I", Cond.fieldLink RX11 90 "LayoutPressModel" "isRemarked" "[Z", Cond.fieldLink RX11 93 "LayoutPressModel" "flats" "[I", Cond.fieldLink RX11 96 "LayoutPressModel" "indents" "[I", Cond.fieldLink RX11 99 "LayoutPressModel" "aheads" "[I", Cond.fieldLink RX11 102 "LayoutPressModel" "passes" "[I", Cond.fieldLink RX11 105 "LayoutPressModel" "costs" "[I", Cond.fieldLink RX11 108 "LayoutPressModel" "lineEnds" "[I", Cond.fieldLink RX11 111 "LayoutPressModel" "bits" "[I", Cond.fieldLink RX11 114 "LayoutPressModel" "told" "[I", Cond.fieldLink RX11 117 "LayoutPressModel" "isGone" "[Z", Cond.constant RX11 120 (262144), Cond.fieldLink RX11 121 "LayoutPressModel" "slots" "[I", Cond.fieldLink RX11 124 "LayoutPressModel" "slotRounds" "[I", Cond.constant RX11 127 (200000), Cond.fieldLink RX11 128 "LayoutPressModel" "aheadOf" "[I", Cond.fieldLink RX11 131 "LayoutPressModel" "indentOf" "[I", Cond.fieldLink RX11 134 "LayoutPressModel" "nextAhead" "[I", Cond.fieldLink RX11 137 "LayoutPressModel" "aheadHeads" "[I", Cond.fieldLink RX11 140 "LayoutPressModel" "given" "[I", Cond.fieldLink RX11 143 "LayoutPressModel" "openIndents" "[I", Cond.fieldLink RX11 146 "LayoutPressModel" "rowLines" "[I", Cond.fieldLink RX11 149 "LayoutPressModel" "rowColumns" "[I", Cond.fieldLink RX11 152 "LayoutPressModel" "rowNodes" "[I"]
def wsL_law0_r8 : List Cond := [Cond.fieldLink RX11 155 "LayoutPressModel" "places" "[I", Cond.fieldLink RX11 158 "LayoutPressModel" "printed" "[I", Cond.fieldLink RX11 161 "LayoutPressModel" "keepFroms" "[I", Cond.fieldLink RX11 164 "LayoutPressModel" "keepTos" "[I", Cond.fieldLink RX11 167 "LayoutPressModel" "keepCosts" "[I", Cond.fieldLink RX11 170 "LayoutPressModel" "enterLines" "[I", Cond.fieldLink RX11 173 "LayoutPressModel" "pageOfLine" "[I", Cond.fieldLink RX11 176 "LayoutPressModel" "bestWays" "[I", Cond.fieldLink RX11 179 "LayoutPressModel" "pageCosts" "[I", Cond.fieldLink RX11 182 "LayoutPressModel" "pagesFrom" "[I", Cond.fieldLink RX11 185 "LayoutPressModel" "firstLines" "[I", Cond.fieldLink RX11 188 "LayoutPressModel" "nodeMany" "I", Cond.methodLink RL 109 yL_text, Cond.static yL_text, Cond.initialized RL, Cond.codeWith yL_text cL_text 5 (some .int) [(0, 10, 13, 13), (0, 10, 17, 15)], Cond.classLink RL 13 "java/lang/IllegalArgumentException", Cond.methodLink RL 7 yX10_text, Cond.instanceMethod yX10_text, Cond.selects RX10 yX10_text yX10_text, Cond.code yX10_text cX10_text 3 (some .int), Cond.instantiable RX4 15, Cond.initialized RX4, Cond.fieldLink RX10 60 "LayoutPress$Kind" "TEXT" "LLayoutPress$Kind;"]
def wsL_law0_r9 : List Cond := [Cond.methodLink RX10 56 yX10_checkRange, Cond.static yX10_checkRange, Cond.code yX10_checkRange cX10_checkRange 3 none, Cond.classLink RX10 234 "java/lang/IllegalArgumentException", Cond.initialized "java/lang/IllegalArgumentException", Cond.methodLink RX10 66 yX4_init, Cond.instanceMethod yX4_init, Cond.code yX4_init cX4_init 4 none, Cond.methodLink RX4 3 objectInit, Cond.fieldLink RX4 9 "LayoutPress$Node" "kind" "LLayoutPress$Kind;", Cond.fieldLink RX4 15 "LayoutPress$Node" "value" "I", Cond.fieldLink RX4 19 "LayoutPress$Node" "first" "LLayoutPress$Node;", Cond.fieldLink RX4 23 "LayoutPress$Node" "second" "LLayoutPress$Node;", Cond.fieldLink RX4 26 "LayoutPress$Node" "leaves" "I", Cond.fieldLink RX4 29 "LayoutPress$Node" "flatWidth" "I", Cond.fieldLink RX4 38 "LayoutPress$Node" "barred" "Z", Cond.fieldLink RX4 45 "LayoutPress$Node" "indents" "Z", Cond.fieldLink RX4 52 "LayoutPress$Node" "traits" "I", Cond.fieldLink RX4 55 "LayoutPress$Node" "layoutCount" "I", Cond.fieldLink RX4 58 "LayoutPress$Node" "flatLayoutCount" "I", Cond.methodLink RX4 41 yX3_endsLine, Cond.instanceMethod yX3_endsLine, Cond.selects RX3 yX3_endsLine yX3_endsLine, Cond.initialized RX3]
def wsL_law0_r10 : List Cond := [Cond.code yX3_endsLine cX3_endsLine 1 (some .boolean), Cond.fieldLink RX3 10 "LayoutPress$Kind" "LINE" "LLayoutPress$Kind;", Cond.fieldLink RX3 13 "LayoutPress$Kind" "SOFT" "LLayoutPress$Kind;", Cond.fieldLink RX3 16 "LayoutPress$Kind" "HARD" "LLayoutPress$Kind;", Cond.methodLink RX4 48 yX4_traitsOfLeaf, Cond.static yX4_traitsOfLeaf, Cond.code yX4_traitsOfLeaf cX4_traitsOfLeaf 2 (some .int), Cond.fieldLink RX4 69 "LayoutPress$Kind" "TAB" "LLayoutPress$Kind;", Cond.methodLink RX10 69 yX10_add, Cond.instanceMethod yX10_add, Cond.selects RX10 yX10_add yX10_add, Cond.code yX10_add cX10_add 2 (some .int), Cond.classLink RX10 126 "java/lang/IllegalStateException", Cond.initialized "java/lang/IllegalStateException", Cond.methodLink RX10 252 yX4_take, Cond.instanceMethod yX4_take, Cond.selects RX4 yX4_take yX4_take, Cond.code yX4_take cX4_take 2 none, Cond.fieldLink RX4 116 "LayoutPress$Node" "number" "I", Cond.fieldLink RX4 81 "LayoutPress$Node" "within" "J", Cond.methodLink RX4 119 yX4_bit, Cond.instanceMethod yX4_bit, Cond.selects RX4 yX4_bit yX4_bit, Cond.code yX4_bit cX4_bit 1 (some .long)]
def wsL_law0_r11 : List Cond := [Cond.methodLink RL 114 yX11_text, Cond.instanceMethod yX11_text, Cond.selects RX11 yX11_text yX11_text, Cond.code yX11_text cX11_text 3 (some .int), Cond.fieldLink RX11 192 "LayoutPressModel" "thrown" "I", Cond.methodLink RX11 195 yX11_in, Cond.static yX11_in, Cond.code yX11_in cX11_in 3 (some .boolean), Cond.methodLink RX11 214 yX11_leaf, Cond.instanceMethod yX11_leaf, Cond.selects RX11 yX11_leaf yX11_leaf, Cond.code yX11_leaf cX11_leaf 5 (some .int), Cond.methodLink RL 115 yX11_thrown, Cond.instanceMethod yX11_thrown, Cond.selects RX11 yX11_thrown yX11_thrown, Cond.code yX11_thrown cX11_thrown 1 (some .int), Cond.methodLink RL 118 yL_remark, Cond.static yL_remark, Cond.codeWith yL_remark cL_remark 5 (some .int) [(0, 10, 13, 13), (0, 10, 17, 15)], Cond.methodLink RL 17 yX10_remark, Cond.instanceMethod yX10_remark, Cond.selects RX10 yX10_remark yX10_remark, Cond.code yX10_remark cX10_remark 3 (some .int), Cond.fieldLink RX10 73 "LayoutPress$Kind" "REMARK" "LLayoutPress$Kind;"]
def wsL_law0_r12 : List Cond := [Cond.methodLink RL 120 yX11_remark, Cond.instanceMethod yX11_remark, Cond.selects RX11 yX11_remark yX11_remark, Cond.code yX11_remark cX11_remark 3 (some .int), Cond.methodLink RL 121 yL_line, Cond.static yL_line, Cond.codeWith yL_line cL_line 3 (some .int) [(0, 8, 11, 15)], Cond.classLink RL 15 "java/lang/IllegalStateException", Cond.methodLink RL 20 yX10_line, Cond.instanceMethod yX10_line, Cond.selects RX10 yX10_line yX10_line, Cond.code yX10_line cX10_line 1 (some .int), Cond.fieldLink RX10 76 "LayoutPress$Kind" "LINE" "LLayoutPress$Kind;", Cond.methodLink RL 124 yX11_line, Cond.instanceMethod yX11_line, Cond.selects RX11 yX11_line yX11_line, Cond.code yX11_line cX11_line 1 (some .int), Cond.methodLink RX11 218 yX11_end, Cond.instanceMethod yX11_end, Cond.selects RX11 yX11_end yX11_end, Cond.code yX11_end cX11_end 2 (some .int), Cond.methodLink RL 125 yL_soft, Cond.static yL_soft, Cond.codeWith yL_soft cL_soft 3 (some .int) [(0, 8, 11, 15)]]
def wsL_law0_r13 : List Cond := [Cond.methodLink RL 24 yX10_soft, Cond.instanceMethod yX10_soft, Cond.selects RX10 yX10_soft yX10_soft, Cond.code yX10_soft cX10_soft 1 (some .int), Cond.fieldLink RX10 79 "LayoutPress$Kind" "SOFT" "LLayoutPress$Kind;", Cond.methodLink RL 127 yX11_soft, Cond.instanceMethod yX11_soft, Cond.selects RX11 yX11_soft yX11_soft, Cond.code yX11_soft cX11_soft 1 (some .int), Cond.methodLink RL 128 yL_hard, Cond.static yL_hard, Cond.codeWith yL_hard cL_hard 3 (some .int) [(0, 8, 11, 15)], Cond.methodLink RL 27 yX10_hard, Cond.instanceMethod yX10_hard, Cond.selects RX10 yX10_hard yX10_hard, Cond.code yX10_hard cX10_hard 1 (some .int), Cond.fieldLink RX10 82 "LayoutPress$Kind" "HARD" "LLayoutPress$Kind;", Cond.methodLink RL 130 yX11_hard, Cond.instanceMethod yX11_hard, Cond.selects RX11 yX11_hard yX11_hard, Cond.code yX11_hard cX11_hard 1 (some .int), Cond.methodLink RL 131 yL_tab, Cond.static yL_tab, Cond.codeWith yL_tab cL_tab 4 (some .int) [(0, 9, 12, 13), (0, 9, 15, 15)]]
def wsL_law0_r14 : List Cond := [Cond.methodLink RL 30 yX10_tab, Cond.instanceMethod yX10_tab, Cond.selects RX10 yX10_tab yX10_tab, Cond.code yX10_tab cX10_tab 2 (some .int), Cond.fieldLink RX10 85 "LayoutPress$Kind" "TAB" "LLayoutPress$Kind;", Cond.methodLink RL 134 yX11_tab, Cond.instanceMethod yX11_tab, Cond.selects RX11 yX11_tab yX11_tab, Cond.code yX11_tab cX11_tab 2 (some .int), Cond.methodLink RL 135 yL_pair, Cond.static yL_pair, Cond.codeWith yL_pair cL_pair 5 (some .int) [(0, 10, 13, 37), (0, 10, 17, 15)], Cond.classLink RL 37 "java/lang/IndexOutOfBoundsException", Cond.methodLink RL 34 yX10_pair, Cond.instanceMethod yX10_pair, Cond.selects RX10 yX10_pair yX10_pair, Cond.code yX10_pair cX10_pair 3 (some .int), Cond.fieldLink RX10 88 "LayoutPress$Kind" "PAIR" "LLayoutPress$Kind;", Cond.methodLink RX10 91 yX10_nodeOf, Cond.instanceMethod yX10_nodeOf, Cond.selects RX10 yX10_nodeOf yX10_nodeOf, Cond.code yX10_nodeOf cX10_nodeOf 3 (some (.object "LayoutPress$Node")), Cond.classLink RX10 208 "java/lang/IndexOutOfBoundsException", Cond.initialized "java/lang/IndexOutOfBoundsException"]
def wsL_law0_r15 : List Cond := [Cond.methodLink RX10 95 yX4_init_, Cond.instanceMethod yX4_init_, Cond.code yX4_init_ cX4_init_ 5 none, Cond.methodLink RX4 61 yX4_measureTwo, Cond.instanceMethod yX4_measureTwo, Cond.selects RX4 yX4_measureTwo yX4_measureTwo, Cond.code yX4_measureTwo cX4_measureTwo 3 none, Cond.fieldLink RX4 104 "LayoutPress$Kind" "BROKEN" "LLayoutPress$Kind;", Cond.fieldLink RX4 107 "LayoutPress$Kind" "PAIR" "LLayoutPress$Kind;", Cond.fieldLink RX4 91 "LayoutPress$Node" "mostWays" "I", Cond.fieldLink RX4 85 "LayoutPress$Node" "mostFlatWays" "I", Cond.fieldLink RX4 110 "LayoutPress$Kind" "CHOICE" "LLayoutPress$Kind;", Cond.methodLink RX4 94 Lib.Math.max.name, Cond.static Lib.Math.max.name, Cond.initialized "java/lang/Math", Cond.code Lib.Math.max.name Lib.Math.max.code 2 (some .int), Cond.methodLink RX4 100 yX4_atMostCounted, Cond.static yX4_atMostCounted, Cond.code yX4_atMostCounted cX4_atMostCounted 2 (some .int), Cond.constantLong RX4 113 (1000000), Cond.constant RX4 115 (1000000), Cond.methodLink RX4 65 yX4_measureOne, Cond.instanceMethod yX4_measureOne, Cond.selects RX4 yX4_measureOne yX4_measureOne]
def wsL_law0_r16 : List Cond := [Cond.code yX4_measureOne cX4_measureOne 3 none, Cond.fieldLink RX4 72 "LayoutPress$Kind" "FLAT" "LLayoutPress$Kind;", Cond.fieldLink RX4 75 "LayoutPress$Kind" "CELL" "LLayoutPress$Kind;", Cond.fieldLink RX4 78 "LayoutPress$Kind" "ALIGN" "LLayoutPress$Kind;", Cond.fieldLink RX4 88 "LayoutPress$Kind" "GROUP" "LLayoutPress$Kind;", Cond.methodLink RL 137 yX11_pair, Cond.instanceMethod yX11_pair, Cond.selects RX11 yX11_pair yX11_pair, Cond.code yX11_pair cX11_pair 3 (some .int), Cond.methodLink RX11 226 yX11_areNodes, Cond.instanceMethod yX11_areNodes, Cond.selects RX11 yX11_areNodes yX11_areNodes, Cond.code yX11_areNodes cX11_areNodes 3 (some .boolean), Cond.methodLink RX11 222 yX11_isNode, Cond.instanceMethod yX11_isNode, Cond.selects RX11 yX11_isNode yX11_isNode, Cond.code yX11_isNode cX11_isNode 2 (some .boolean), Cond.methodLink RX11 230 yX11_made, Cond.instanceMethod yX11_made, Cond.selects RX11 yX11_made yX11_made, Cond.code yX11_made cX11_made 7 (some .int), Cond.methodLink RX11 210 yX11_lays, Cond.instanceMethod yX11_lays, Cond.selects RX11 yX11_lays yX11_lays]
def wsL_law0_r17 : List Cond := [Cond.code yX11_lays cX11_lays 7 (some .boolean), Cond.methodLink RX11 202 yX11_capped, Cond.static yX11_capped, Cond.code yX11_capped cX11_capped 2 (some .int), Cond.constantLong RX11 199 (1000000), Cond.constant RX11 201 (1000000), Cond.methodLink RX11 206 yX11_greater, Cond.static yX11_greater, Cond.code yX11_greater cX11_greater 2 (some .int), Cond.methodLink RL 138 yL_nest, Cond.static yL_nest, Cond.codeWith yL_nest cL_nest 5 (some .int) [(0, 10, 13, 37), (0, 10, 17, 13), (0, 10, 21, 15)], Cond.methodLink RL 39 yX10_nest, Cond.instanceMethod yX10_nest, Cond.selects RX10 yX10_nest yX10_nest, Cond.code yX10_nest cX10_nest 4 (some .int), Cond.fieldLink RX10 98 "LayoutPress$Kind" "NEST" "LLayoutPress$Kind;", Cond.methodLink RL 140 yX11_nest, Cond.instanceMethod yX11_nest, Cond.selects RX11 yX11_nest yX11_nest, Cond.code yX11_nest cX11_nest 3 (some .int), Cond.methodLink RX11 234 yX11_isPart, Cond.instanceMethod yX11_isPart, Cond.selects RX11 yX11_isPart yX11_isPart]
def wsL_law0_r18 : List Cond := [Cond.code yX11_isPart cX11_isPart 3 (some .boolean), Cond.methodLink RL 141 yL_align, Cond.static yL_align, Cond.codeWith yL_align cL_align 4 (some .int) [(0, 9, 12, 37), (0, 9, 15, 15)], Cond.methodLink RL 42 yX10_align, Cond.instanceMethod yX10_align, Cond.selects RX10 yX10_align yX10_align, Cond.code yX10_align cX10_align 2 (some .int), Cond.fieldLink RX10 101 "LayoutPress$Kind" "ALIGN" "LLayoutPress$Kind;", Cond.methodLink RL 143 yX11_align, Cond.instanceMethod yX11_align, Cond.selects RX11 yX11_align yX11_align, Cond.code yX11_align cX11_align 2 (some .int), Cond.methodLink RL 144 yL_group, Cond.static yL_group, Cond.codeWith yL_group cL_group 4 (some .int) [(0, 9, 12, 37), (0, 9, 15, 15)], Cond.methodLink RL 45 yX10_group, Cond.instanceMethod yX10_group, Cond.selects RX10 yX10_group yX10_group, Cond.code yX10_group cX10_group 2 (some .int), Cond.fieldLink RX10 104 "LayoutPress$Kind" "GROUP" "LLayoutPress$Kind;", Cond.methodLink RL 146 yX11_group, Cond.instanceMethod yX11_group, Cond.selects RX11 yX11_group yX11_group]
def wsL_law0_r19 : List Cond := [Cond.code yX11_group cX11_group 2 (some .int), Cond.methodLink RL 147 yL_choice, Cond.static yL_choice, Cond.codeWith yL_choice cL_choice 5 (some .int) [(0, 10, 13, 37), (0, 10, 17, 15)], Cond.methodLink RL 48 yX10_choice, Cond.instanceMethod yX10_choice, Cond.selects RX10 yX10_choice yX10_choice, Cond.code yX10_choice cX10_choice 3 (some .int), Cond.fieldLink RX10 107 "LayoutPress$Kind" "CHOICE" "LLayoutPress$Kind;", Cond.methodLink RL 149 yX11_choice, Cond.instanceMethod yX11_choice, Cond.selects RX11 yX11_choice yX11_choice, Cond.code yX11_choice cX11_choice 3 (some .int), Cond.methodLink RL 150 yL_flat, Cond.static yL_flat, Cond.codeWith yL_flat cL_flat 4 (some .int) [(0, 9, 12, 37), (0, 9, 15, 15)], Cond.methodLink RL 51 yX10_flat, Cond.instanceMethod yX10_flat, Cond.selects RX10 yX10_flat yX10_flat, Cond.code yX10_flat cX10_flat 2 (some .int), Cond.fieldLink RX10 110 "LayoutPress$Kind" "FLAT" "LLayoutPress$Kind;", Cond.methodLink RL 152 yX11_flat, Cond.instanceMethod yX11_flat, Cond.selects RX11 yX11_flat yX11_flat]
def wsL_law0_r20 : List Cond := [Cond.code yX11_flat cX11_flat 2 (some .int), Cond.methodLink RL 153 yL_broken, Cond.static yL_broken, Cond.codeWith yL_broken cL_broken 5 (some .int) [(0, 10, 13, 37), (0, 10, 17, 15)], Cond.methodLink RL 54 yX10_broken, Cond.instanceMethod yX10_broken, Cond.selects RX10 yX10_broken yX10_broken, Cond.code yX10_broken cX10_broken 3 (some .int), Cond.fieldLink RX10 113 "LayoutPress$Kind" "BROKEN" "LLayoutPress$Kind;", Cond.methodLink RL 155 yX11_broken, Cond.instanceMethod yX11_broken, Cond.selects RX11 yX11_broken yX11_broken, Cond.code yX11_broken cX11_broken 3 (some .int), Cond.methodLink RL 156 yL_price, Cond.static yL_price, Cond.codeWith yL_price cL_price 5 (some .int) [(0, 10, 13, 37), (0, 10, 17, 13), (0, 10, 21, 15)], Cond.methodLink RL 57 yX10_price, Cond.instanceMethod yX10_price, Cond.selects RX10 yX10_price yX10_price, Cond.code yX10_price cX10_price 4 (some .int), Cond.fieldLink RX10 116 "LayoutPress$Kind" "PRICE" "LLayoutPress$Kind;", Cond.methodLink RL 158 yX11_price, Cond.instanceMethod yX11_price, Cond.selects RX11 yX11_price yX11_price]
def wsL_law0_r21 : List Cond := [Cond.code yX11_price cX11_price 3 (some .int), Cond.methodLink RL 159 yL_keep, Cond.static yL_keep, Cond.codeWith yL_keep cL_keep 5 (some .int) [(0, 10, 13, 37), (0, 10, 17, 13), (0, 10, 21, 15)], Cond.methodLink RL 60 yX10_keep, Cond.instanceMethod yX10_keep, Cond.selects RX10 yX10_keep yX10_keep, Cond.code yX10_keep cX10_keep 4 (some .int), Cond.fieldLink RX10 119 "LayoutPress$Kind" "KEEP" "LLayoutPress$Kind;", Cond.methodLink RL 161 yX11_keep, Cond.instanceMethod yX11_keep, Cond.selects RX11 yX11_keep yX11_keep, Cond.code yX11_keep cX11_keep 3 (some .int), Cond.methodLink RL 162 yL_cell, Cond.static yL_cell, Cond.codeWith yL_cell cL_cell 6 (some .int) [(0, 12, 15, 37), (0, 12, 19, 13), (0, 12, 23, 15)], Cond.methodLink RL 63 yX10_cell, Cond.instanceMethod yX10_cell, Cond.selects RX10 yX10_cell yX10_cell, Cond.code yX10_cell cX10_cell 5 (some .int), Cond.fieldLink RX10 133 "LayoutPress$Kind" "CELL" "LLayoutPress$Kind;", Cond.methodLink RL 165 yX11_cell, Cond.instanceMethod yX11_cell, Cond.selects RX11 yX11_cell yX11_cell]
def wsL_law0_r22 : List Cond := [Cond.code yX11_cell cX11_cell 4 (some .int), Cond.methodLink RL 166 yX10_nodes, Cond.instanceMethod yX10_nodes, Cond.selects RX10 yX10_nodes yX10_nodes, Cond.code yX10_nodes cX10_nodes 1 (some .int), Cond.methodLink RL 169 yX11_nodes, Cond.instanceMethod yX11_nodes, Cond.selects RX11 yX11_nodes yX11_nodes, Cond.code yX11_nodes cX11_nodes 1 (some .int), Cond.methodLink RL 170 yL_size, Cond.static yL_size, Cond.codeWith yL_size cL_size 4 (some .int) [(0, 9, 12, 37)], Cond.methodLink RL 67 yX10_size, Cond.instanceMethod yX10_size, Cond.selects RX10 yX10_size yX10_size, Cond.code yX10_size cX10_size 2 (some .int), Cond.methodLink RL 172 yX11_size, Cond.instanceMethod yX11_size, Cond.selects RX11 yX11_size yX11_size, Cond.code yX11_size cX11_size 2 (some .int), Cond.methodLink RL 173 yL_layouts, Cond.static yL_layouts, Cond.codeWith yL_layouts cL_layouts 4 (some .int) [(0, 9, 12, 37)], Cond.methodLink RL 70 yX10_layouts]
def wsL_law0_r23 : List Cond := [Cond.instanceMethod yX10_layouts, Cond.selects RX10 yX10_layouts yX10_layouts, Cond.code yX10_layouts cX10_layouts 2 (some .int), Cond.methodLink RL 175 yX11_layouts, Cond.instanceMethod yX11_layouts, Cond.selects RX11 yX11_layouts yX11_layouts, Cond.code yX11_layouts cX11_layouts 2 (some .int), Cond.methodLink RL 176 yL_print, Cond.static yL_print, Cond.codeWith yL_print cL_print 7 (some .int) [(0, 14, 17, 37), (0, 14, 21, 13), (0, 14, 25, 15)], Cond.methodLink RL 73 yX10_print, Cond.instanceMethod yX10_print, Cond.selects RX10 yX10_print yX10_print, Cond.code yX10_print cX10_print 6 (some .int), Cond.methodLink RX10 142 yX10_agreeOn, Cond.instanceMethod yX10_agreeOn, Cond.selects RX10 yX10_agreeOn yX10_agreeOn, Cond.code yX10_agreeOn cX10_agreeOn 5 none, Cond.methodLink RX10 255 yX9_set, Cond.instanceMethod yX9_set, Cond.selects RX9 yX9_set yX9_set, Cond.code yX9_set cX9_set 4 none, Cond.fieldLink RX9 15 "LayoutPress$Terms" "width" "I", Cond.fieldLink RX9 19 "LayoutPress$Terms" "ribbon" "I"]
def wsL_law0_r24 : List Cond := [Cond.fieldLink RX9 22 "LayoutPress$Terms" "linePrice" "I", Cond.methodLink RX10 258 yX9_measureCells, Cond.instanceMethod yX9_measureCells, Cond.selects RX9 yX9_measureCells yX9_measureCells, Cond.code yX9_measureCells cX9_measureCells 5 none, Cond.fieldLink RX9 37 "LayoutPress$Kind" "CELL" "LLayoutPress$Kind;", Cond.methodLink RX9 25 yJ7_fill_53178, Cond.methodLink RX9 46 yX4_bit, Cond.methodLink RX9 50 yX9_widen, Cond.instanceMethod yX9_widen, Cond.selects RX9 yX9_widen yX9_widen, Cond.code yX9_widen cX9_widen 3 none, Cond.methodLink RX10 146 yX6_findBest, Cond.instanceMethod yX6_findBest, Cond.selects RX6 yX6_findBest yX6_findBest, Cond.code yX6_findBest cX6_findBest 5 (some .boolean), Cond.fieldLink RX6 31 "LayoutPress$Search" "hasFound" "Z", Cond.constantLong RX6 39 (-1), Cond.constantLong RX6 48 (8), Cond.constantLong RX6 50 (7), Cond.methodLink RX6 52 Lib.MathLoose.max_long.x, Cond.static Lib.MathLoose.max_long.x, Cond.code Lib.MathLoose.max_long.x Lib.MathLoose.max_long.code 4 (some .long), Cond.methodLink RX6 44 yX6_searchInParts]
def wsL_law0_r25 : List Cond := [Cond.instanceMethod yX6_searchInParts, Cond.selects RX6 yX6_searchInParts yX6_searchInParts, Cond.code yX6_searchInParts cX6_searchInParts 4 none, Cond.constant RX6 61 (1073741824), Cond.methodLink RX6 58 yX2_begin, Cond.instanceMethod yX2_begin, Cond.selects RX2 yX2_begin yX2_begin, Cond.code yX2_begin cX2_begin 1 none, Cond.fieldLink RX2 24 "LayoutPress$Held" "level" "I", Cond.fieldLink RX2 28 "LayoutPress$Held" "count" "I", Cond.methodLink RX6 62 yX8_begin, Cond.instanceMethod yX8_begin, Cond.selects RX8 yX8_begin yX8_begin, Cond.code yX8_begin cX8_begin 1 none, Cond.fieldLink RX8 57 "LayoutPress$States" "isFull" "Z", Cond.fieldLink RX8 61 "LayoutPress$States" "top" "I", Cond.methodLink RX6 63 yX6_advance, Cond.instanceMethod yX6_advance, Cond.selects RX6 yX6_advance yX6_advance, Cond.code yX6_advance cX6_advance 8 none, Cond.fieldLink RX6 106 "LayoutPress$1" "$SwitchMap$LayoutPress$Kind" "[I", Cond.methodLink RX6 117 ⟨"LayoutPress$Kind", "ordinal", "()I"⟩, Cond.sameMethod "LayoutPress$Kind" "java/lang/Enum" "ordinal" "()I", Cond.selects RX3 ⟨"LayoutPress$Kind", "ordinal", "()I"⟩ yJx29ce0_ordinal_8abf5]
def wsL_law0_r26 : List Cond := [Cond.instanceMethod yJx29ce0_ordinal_8abf5, Cond.initialized RJx29ce0, Cond.code yJx29ce0_ordinal_8abf5 cJx29ce0_ordinal_8abf5 1 (some .int), Cond.fieldLink RJx29ce0 7 "java/lang/Enum" "ordinal" "I", Cond.methodLink RX6 136 yX6_advanceAlign, Cond.instanceMethod yX6_advanceAlign, Cond.selects RX6 yX6_advanceAlign yX6_advanceAlign, Cond.methodLink RX6 139 yX6_fork, Cond.instanceMethod yX6_fork, Cond.selects RX6 yX6_fork yX6_fork, Cond.methodLink RX6 142 yX6_pay, Cond.instanceMethod yX6_pay, Cond.selects RX6 yX6_pay yX6_pay, Cond.code yX6_pay cX6_pay 4 none, Cond.methodLink RX6 220 yX8_addCost, Cond.instanceMethod yX8_addCost, Cond.selects RX8 yX8_addCost yX8_addCost, Cond.code yX8_addCost cX8_addCost 4 none, Cond.constantLong RX8 120 (32), Cond.methodLink RX6 224 yX8_dropHeavy, Cond.instanceMethod yX8_dropHeavy, Cond.selects RX8 yX8_dropHeavy yX8_dropHeavy, Cond.code yX8_dropHeavy cX8_dropHeavy 4 none, Cond.methodLink RX8 90 yX8_isHeavy]
def wsL_law0_r27 : List Cond := [Cond.instanceMethod yX8_isHeavy, Cond.selects RX8 yX8_isHeavy yX8_isHeavy, Cond.code yX8_isHeavy cX8_isHeavy 5 (some .boolean), Cond.fieldLink RX8 98 "LayoutPress$States" "limit" "J", Cond.fieldLink RX8 102 "LayoutPress$States" "leastDropped" "J", Cond.constantLong RX8 105 (-1), Cond.methodLink RX8 94 yX8_fullWeight, Cond.instanceMethod yX8_fullWeight, Cond.selects RX8 yX8_fullWeight yX8_fullWeight, Cond.code yX8_fullWeight cX8_fullWeight 3 (some .long), Cond.methodLink RX8 86 yX8_copyState, Cond.instanceMethod yX8_copyState, Cond.selects RX8 yX8_copyState yX8_copyState, Cond.code yX8_copyState cX8_copyState 3 none, Cond.methodLink RX6 146 yX9_padding, Cond.instanceMethod yX9_padding, Cond.selects RX9 yX9_padding yX9_padding, Cond.code yX9_padding cX9_padding 3 (some .int), Cond.methodLink RX6 152 yX6_putBlanks, Cond.instanceMethod yX6_putBlanks, Cond.selects RX6 yX6_putBlanks yX6_putBlanks, Cond.code yX6_putBlanks cX6_putBlanks 4 none, Cond.methodLink RX6 155 yX6_settle, Cond.instanceMethod yX6_settle]
def wsL_law0_r28 : List Cond := [Cond.selects RX6 yX6_settle yX6_settle, Cond.code yX6_settle cX6_settle 3 none, Cond.methodLink RX6 213 yX8_forgetLines, Cond.instanceMethod yX8_forgetLines, Cond.selects RX8 yX8_forgetLines yX8_forgetLines, Cond.code yX8_forgetLines cX8_forgetLines 3 none, Cond.methodLink RX8 122 yX8_beginLine, Cond.instanceMethod yX8_beginLine, Cond.selects RX8 yX8_beginLine yX8_beginLine, Cond.code yX8_beginLine cX8_beginLine 3 none, Cond.methodLink RX6 216 yX8_merge, Cond.instanceMethod yX8_merge, Cond.selects RX8 yX8_merge yX8_merge, Cond.code yX8_merge cX8_merge 5 none, Cond.methodLink RX8 125 yX8_clearSlots, Cond.instanceMethod yX8_clearSlots, Cond.selects RX8 yX8_clearSlots yX8_clearSlots, Cond.code yX8_clearSlots cX8_clearSlots 3 none, Cond.methodLink RX8 142 yJ7_fill_fda19, Cond.static yJ7_fill_fda19, Cond.code yJ7_fill_fda19 cJ7_fill_fda19 5 none, Cond.methodLink RJ7 13 yJ7_rangeCheck_23922, Cond.static yJ7_rangeCheck_23922, Cond.code yJ7_rangeCheck_23922 cJ7_rangeCheck_23922 3 none]
def wsL_law0_r29 : List Cond := [Cond.classLink RJ7 45 RJ4, Cond.instantiable RJ4 4, Cond.initialized RJ4, Cond.classLink RJ7 68 RJx00060, Cond.instantiable RJx00060 6, Cond.initialized RJx00060, Cond.methodLink RX8 128 yX8_keepTop, Cond.instanceMethod yX8_keepTop, Cond.selects RX8 yX8_keepTop yX8_keepTop, Cond.code yX8_keepTop cX8_keepTop 5 none, Cond.methodLink RX8 132 yX8_mix, Cond.static yX8_mix, Cond.code yX8_mix cX8_mix 3 (some .int), Cond.constant RX8 146 (-1640531535), Cond.methodLink RX8 135 yX8_slotOf, Cond.instanceMethod yX8_slotOf, Cond.selects RX8 yX8_slotOf yX8_slotOf, Cond.code yX8_slotOf cX8_slotOf 2 (some .int), Cond.methodLink RX8 138 yX8_goesOnNoWorse, Cond.instanceMethod yX8_goesOnNoWorse, Cond.selects RX8 yX8_goesOnNoWorse yX8_goesOnNoWorse, Cond.code yX8_goesOnNoWorse cX8_goesOnNoWorse 8 (some .boolean), Cond.methodLink RX6 158 yX6_putLeaf, Cond.instanceMethod yX6_putLeaf]
def wsL_law0_r30 : List Cond := [Cond.selects RX6 yX6_putLeaf yX6_putLeaf, Cond.code yX6_putLeaf cX6_putLeaf 5 none, Cond.fieldLink RX6 230 "LayoutPress$Kind" "TAB" "LLayoutPress$Kind;", Cond.methodLink RX6 233 yX6_putTab, Cond.instanceMethod yX6_putTab, Cond.selects RX6 yX6_putTab yX6_putTab, Cond.code yX6_putTab cX6_putTab 4 none, Cond.methodLink RX6 270 Lib.Math.max.name, Cond.methodLink RX6 236 yX3_endsLine, Cond.methodLink RX6 239 yX6_putSigns, Cond.instanceMethod yX6_putSigns, Cond.selects RX6 yX6_putSigns yX6_putSigns, Cond.code yX6_putSigns cX6_putSigns 7 none, Cond.fieldLink RX6 249 "LayoutPress$Kind" "REMARK" "LLayoutPress$Kind;", Cond.methodLink RX6 252 yX8_dropRemarked, Cond.instanceMethod yX8_dropRemarked, Cond.selects RX8 yX8_dropRemarked yX8_dropRemarked, Cond.code yX8_dropRemarked cX8_dropRemarked 4 none, Cond.methodLink RX6 260 yX9_lineCost, Cond.instanceMethod yX9_lineCost, Cond.selects RX9 yX9_lineCost yX9_lineCost, Cond.code yX9_lineCost cX9_lineCost 7 (some .long), Cond.methodLink RX9 60 Lib.Math.max.name, Cond.methodLink RX6 246 yX6_endLines]
def wsL_law0_r31 : List Cond := [Cond.instanceMethod yX6_endLines, Cond.selects RX6 yX6_endLines yX6_endLines, Cond.code yX6_endLines cX6_endLines 4 none, Cond.methodLink RX6 275 yX8_addLineEnd, Cond.instanceMethod yX8_addLineEnd, Cond.selects RX8 yX8_addLineEnd yX8_addLineEnd, Cond.code yX8_addLineEnd cX8_addLineEnd 2 none, Cond.methodLink RX6 278 yX8_indentationOf, Cond.instanceMethod yX8_indentationOf, Cond.selects RX8 yX8_indentationOf yX8_indentationOf, Cond.code yX8_indentationOf cX8_indentationOf 3 (some .int), Cond.methodLink RX6 281 yX8_beginLine, Cond.code yX6_advanceAlign cX6_advanceAlign 8 none, Cond.fieldLink RX6 165 "LayoutPress$Kind" "NEST" "LLayoutPress$Kind;", Cond.fieldLink RX6 168 "LayoutPress$Kind" "PAIR" "LLayoutPress$Kind;", Cond.methodLink RX6 171 yX6_passAlign, Cond.instanceMethod yX6_passAlign, Cond.selects RX6 yX6_passAlign yX6_passAlign, Cond.code yX6_fork cX6_fork 10 none, Cond.fieldLink RX6 206 "LayoutPress$Kind" "GROUP" "LLayoutPress$Kind;", Cond.methodLink RX6 209 yX8_branch, Cond.instanceMethod yX8_branch, Cond.selects RX8 yX8_branch yX8_branch, Cond.code yX8_branch cX8_branch 5 none]
def wsL_law0_r32 : List Cond := [Cond.methodLink RX8 107 yX2_allows, Cond.instanceMethod yX2_allows, Cond.selects RX2 yX2_allows yX2_allows, Cond.code yX2_allows cX2_allows 4 (some .boolean), Cond.static yX10_wayBit, Cond.code yX10_wayBit cX10_wayBit 1 (some .int), Cond.methodLink RX8 113 yX8_hasRoom, Cond.instanceMethod yX8_hasRoom, Cond.selects RX8 yX8_hasRoom yX8_hasRoom, Cond.code yX8_hasRoom cX8_hasRoom 3 (some .boolean), Cond.methodLink RX8 64 Lib.Math.max.name, Cond.methodLink RX8 70 Lib.Math.min.name, Cond.static Lib.Math.min.name, Cond.code Lib.Math.min.name Lib.Math.min.code 2 (some .int), Cond.methodLink RX8 73 yX8_makeRows, Cond.instanceMethod yX8_makeRows, Cond.selects RX8 yX8_makeRows yX8_makeRows, Cond.code yX8_makeRows cX8_makeRows 2 none, Cond.methodLink RX8 77 yJ7_copyOf_59c91, Cond.static yJ7_copyOf_59c91, Cond.code yJ7_copyOf_59c91 cJ7_copyOf_59c91 3 (some (.array .int)), Cond.methodLink RJ7 316 ⟨"[I", "clone", "()Ljava/lang/Object;"⟩, Cond.sameMethod "[I" "java/lang/Object" "clone" "()Ljava/lang/Object;", Cond.native ⟨"java/lang/Object", "clone", "()Ljava/lang/Object;"⟩]
def wsL_law0_r33 : List Cond := [Cond.instanceMethod ⟨"java/lang/Object", "clone", "()Ljava/lang/Object;"⟩, Cond.selects "[I" ⟨"[I", "clone", "()Ljava/lang/Object;"⟩ ⟨"java/lang/Object", "clone", "()Ljava/lang/Object;"⟩, Cond.classLink RJ7 317 "[I", Cond.methodLink RJ7 304 Lib.Math.min.name, Cond.methodLink RJ7 150 arraycopyName, Cond.native arraycopyName, Cond.static arraycopyName, Cond.initialized "java/lang/System", Cond.methodLink RX8 83 yJ7_copyOf_c38d5, Cond.static yJ7_copyOf_c38d5, Cond.code yJ7_copyOf_c38d5 cJ7_copyOf_c38d5 3 (some (.array .long)), Cond.methodLink RJ7 319 ⟨"[J", "clone", "()Ljava/lang/Object;"⟩, Cond.sameMethod "[J" "java/lang/Object" "clone" "()Ljava/lang/Object;", Cond.selects "[J" ⟨"[J", "clone", "()Ljava/lang/Object;"⟩ ⟨"java/lang/Object", "clone", "()Ljava/lang/Object;"⟩, Cond.classLink RJ7 320 "[J", Cond.methodLink RX6 203 yX8_slide, Cond.instanceMethod yX8_slide, Cond.selects RX8 yX8_slide yX8_slide, Cond.code yX8_slide cX8_slide 5 none, Cond.code yX6_passAlign cX6_passAlign 14 none, Cond.methodLink RX6 175 yX8_waitAtAlign, Cond.instanceMethod yX8_waitAtAlign, Cond.selects RX8 yX8_waitAtAlign yX8_waitAtAlign, Cond.code yX8_waitAtAlign cX8_waitAtAlign 6 none]
def wsL_law0_r34 : List Cond := [Cond.methodLink RX8 150 Lib.MathLoose.min_long.x, Cond.static Lib.MathLoose.min_long.x, Cond.code Lib.MathLoose.min_long.x Lib.MathLoose.min_long.code 4 (some .long), Cond.methodLink RX8 147 yX8_isInSameLine, Cond.instanceMethod yX8_isInSameLine, Cond.selects RX8 yX8_isInSameLine yX8_isInSameLine, Cond.code yX8_isInSameLine cX8_isInSameLine 3 (some .boolean), Cond.methodLink RX6 179 yX2_enter, Cond.instanceMethod yX2_enter, Cond.selects RX2 yX2_enter yX2_enter, Cond.code yX2_enter cX2_enter 1 none, Cond.methodLink RX6 182 yX8_enterAlign, Cond.instanceMethod yX8_enterAlign, Cond.selects RX8 yX8_enterAlign yX8_enterAlign, Cond.code yX8_enterAlign cX8_enterAlign 6 (some .int), Cond.methodLink RX6 186 yX8_waitingFor, Cond.instanceMethod yX8_waitingFor, Cond.selects RX8 yX8_waitingFor yX8_waitingFor, Cond.code yX8_waitingFor cX8_waitingFor 2 (some .int), Cond.methodLink RX6 190 yX8_leaveAlign, Cond.instanceMethod yX8_leaveAlign, Cond.selects RX8 yX8_leaveAlign yX8_leaveAlign, Cond.code yX8_leaveAlign cX8_leaveAlign 11 none, Cond.methodLink RX8 153 yX8_join]
def wsL_law0_r35 : List Cond := [Cond.instanceMethod yX8_join, Cond.selects RX8 yX8_join yX8_join, Cond.code yX8_join cX8_join 4 none, Cond.methodLink RX8 160 yX2_allowsOutside, Cond.instanceMethod yX2_allowsOutside, Cond.selects RX2 yX2_allowsOutside yX2_allowsOutside, Cond.code yX2_allowsOutside cX2_allowsOutside 5 (some .boolean), Cond.methodLink RX2 31 Lib.Math.max.name, Cond.methodLink RX8 157 yX8_slide, Cond.methodLink RX6 81 yX2_goOn, Cond.instanceMethod yX2_goOn, Cond.selects RX2 yX2_goOn yX2_goOn, Cond.code yX2_goOn cX2_goOn 2 (some .boolean), Cond.methodLink RX6 194 yX8_giveUp, Cond.instanceMethod yX8_giveUp, Cond.selects RX8 yX8_giveUp yX8_giveUp, Cond.code yX8_giveUp cX8_giveUp 2 none, Cond.methodLink RX6 197 yX6_hasRoomInside, Cond.static yX6_hasRoomInside, Cond.code yX6_hasRoomInside cX6_hasRoomInside 1 (some .boolean), Cond.methodLink RX6 70 yX8_placeToHold, Cond.instanceMethod yX8_placeToHold, Cond.selects RX8 yX8_placeToHold yX8_placeToHold, Cond.code yX8_placeToHold cX8_placeToHold 7 (some .int)]
def wsL_law0_r36 : List Cond := [Cond.methodLink RX8 163 yX2_isHeld, Cond.instanceMethod yX2_isHeld, Cond.selects RX2 yX2_isHeld yX2_isHeld, Cond.code yX2_isHeld cX2_isHeld 2 (some .boolean), Cond.methodLink RX8 166 yX8_countLess, Cond.instanceMethod yX8_countLess, Cond.selects RX8 yX8_countLess yX8_countLess, Cond.code yX8_countLess cX8_countLess 8 (some .int), Cond.static yX10_wayIn, Cond.code yX10_wayIn cX10_wayIn 2 (some .int), Cond.methodLink RX10 273 yX10_wayBit, Cond.methodLink RX6 74 yX2_hold, Cond.instanceMethod yX2_hold, Cond.selects RX2 yX2_hold yX2_hold, Cond.code yX2_hold cX2_hold 2 (some .boolean), Cond.methodLink RX6 200 yX2_leave, Cond.instanceMethod yX2_leave, Cond.selects RX2 yX2_leave yX2_leave, Cond.code yX2_leave cX2_leave 1 none, Cond.methodLink RX6 78 yX6_keepBest, Cond.instanceMethod yX6_keepBest, Cond.selects RX6 yX6_keepBest yX6_keepBest, Cond.code yX6_keepBest cX6_keepBest 5 none, Cond.fieldLink RX6 97 "LayoutPress$Search" "bestWays" "I"]
def wsL_law0_r37 : List Cond := [Cond.fieldLink RX6 103 "LayoutPress$Search" "bestTold" "I", Cond.methodLink RX10 158 yX1_write, Cond.instanceMethod yX1_write, Cond.selects RX1 yX1_write yX1_write, Cond.code yX1_write cX1_write 4 none, Cond.methodLink RX1 22 yX1_layOut, Cond.instanceMethod yX1_layOut, Cond.selects RX1 yX1_layOut yX1_layOut, Cond.code yX1_layOut cX1_layOut 6 none, Cond.fieldLink RX1 26 "LayoutPress$Hand" "plan" "I", Cond.fieldLink RX1 30 "LayoutPress$Hand" "planned" "I", Cond.fieldLink RX1 33 "LayoutPress$Hand" "laterWay" "I", Cond.fieldLink RX1 36 "LayoutPress$Hand" "watched" "I", Cond.fieldLink RX1 39 "LayoutPress$Hand" "hasStopped" "Z", Cond.methodLink RX1 43 yX7_clear, Cond.instanceMethod yX7_clear, Cond.selects RX7 yX7_clear yX7_clear, Cond.code yX7_clear cX7_clear 1 none, Cond.fieldLink RX7 42 "LayoutPress$Sheet" "lineCount" "I", Cond.fieldLink RX7 46 "LayoutPress$Sheet" "isImpossible" "Z", Cond.fieldLink RX7 50 "LayoutPress$Sheet" "prices" "J", Cond.fieldLink RX7 54 "LayoutPress$Sheet" "ways" "I", Cond.fieldLink RX7 57 "LayoutPress$Sheet" "told" "I", Cond.fieldLink RX7 60 "LayoutPress$Sheet" "ownerCount" "I"]
def wsL_law0_r38 : List Cond := [Cond.methodLink RX7 63 yX7_beginLine, Cond.instanceMethod yX7_beginLine, Cond.selects RX7 yX7_beginLine yX7_beginLine, Cond.code yX7_beginLine cX7_beginLine 2 none, Cond.methodLink RX7 67 Lib.Math.max.name, Cond.fieldLink RX7 73 "LayoutPress$Sheet" "column" "I", Cond.fieldLink RX7 76 "LayoutPress$Sheet" "hasRemark" "Z", Cond.methodLink RX1 46 yX1_put, Cond.instanceMethod yX1_put, Cond.selects RX1 yX1_put yX1_put, Cond.code yX1_put cX1_put 6 none, Cond.fieldLink RX1 108 "LayoutPress$1" "$SwitchMap$LayoutPress$Kind" "[I", Cond.methodLink RX1 104 yX7_beginNode, Cond.instanceMethod yX7_beginNode, Cond.selects RX7 yX7_beginNode yX7_beginNode, Cond.code yX7_beginNode cX7_beginNode 3 none, Cond.methodLink RX7 82 yX7_present, Cond.instanceMethod yX7_present, Cond.selects RX7 yX7_present yX7_present, Cond.code yX7_present cX7_present 1 (some .int), Cond.methodLink RX1 120 ⟨"LayoutPress$Kind", "ordinal", "()I"⟩, Cond.methodLink RX1 138 yX1_decide, Cond.instanceMethod yX1_decide, Cond.selects RX1 yX1_decide yX1_decide]
def wsL_law0_r39 : List Cond := [Cond.code yX1_decide cX1_decide 2 (some .int), Cond.methodLink RX1 97 yX7_tell, Cond.instanceMethod yX7_tell, Cond.selects RX7 yX7_tell yX7_tell, Cond.code yX7_tell cX7_tell 2 none, Cond.methodLink RX1 84 yX7_present, Cond.methodLink RX1 145 yX7_keepTogether, Cond.instanceMethod yX7_keepTogether, Cond.selects RX7 yX7_keepTogether yX7_keepTogether, Cond.code yX7_keepTogether cX7_keepTogether 4 none, Cond.methodLink RX1 149 yX9_padding, Cond.methodLink RX1 153 yX7_putBlanks, Cond.instanceMethod yX7_putBlanks, Cond.selects RX7 yX7_putBlanks yX7_putBlanks, Cond.code yX7_putBlanks cX7_putBlanks 2 none, Cond.methodLink RX1 156 yX1_putLeaf, Cond.instanceMethod yX1_putLeaf, Cond.selects RX1 yX1_putLeaf yX1_putLeaf, Cond.code yX1_putLeaf cX1_putLeaf 4 none, Cond.fieldLink RX1 163 "LayoutPress$Kind" "TAB" "LLayoutPress$Kind;", Cond.methodLink RX1 166 yX7_putTab, Cond.instanceMethod yX7_putTab, Cond.selects RX7 yX7_putTab yX7_putTab, Cond.code yX7_putTab cX7_putTab 2 none]
def wsL_law0_r40 : List Cond := [Cond.methodLink RX1 169 yX3_endsLine, Cond.methodLink RX1 172 yX7_putSigns, Cond.instanceMethod yX7_putSigns, Cond.selects RX7 yX7_putSigns yX7_putSigns, Cond.code yX7_putSigns cX7_putSigns 3 none, Cond.fieldLink RX7 93 "LayoutPress$Kind" "REMARK" "LLayoutPress$Kind;", Cond.methodLink RX1 178 yX1_endLine, Cond.instanceMethod yX1_endLine, Cond.selects RX1 yX1_endLine yX1_endLine, Cond.code yX1_endLine cX1_endLine 2 none, Cond.methodLink RX1 101 yX7_beginLine, Cond.methodLink RX10 162 yX10_takeSheet, Cond.instanceMethod yX10_takeSheet, Cond.selects RX10 yX10_takeSheet yX10_takeSheet, Cond.code yX10_takeSheet cX10_takeSheet 1 (some .int), Cond.methodLink RX10 262 yX1_exchange, Cond.instanceMethod yX1_exchange, Cond.selects RX1 yX1_exchange yX1_exchange, Cond.code yX1_exchange cX1_exchange 3 (some (.object "LayoutPress$Sheet")), Cond.methodLink RX10 266 yX5_forget, Cond.instanceMethod yX5_forget, Cond.selects RX5 yX5_forget yX5_forget, Cond.code yX5_forget cX5_forget 1 none, Cond.fieldLink RX5 24 "LayoutPress$Pages" "areBroken" "Z"]
def wsL_law0_r41 : List Cond := [Cond.methodLink RX10 269 yX9_costOf, Cond.instanceMethod yX9_costOf, Cond.selects RX9 yX9_costOf yX9_costOf, Cond.code yX9_costOf cX9_costOf 5 (some .long), Cond.methodLink RX9 74 yX7_firstOf, Cond.instanceMethod yX7_firstOf, Cond.selects RX7 yX7_firstOf yX7_firstOf, Cond.code yX7_firstOf cX7_firstOf 2 (some .int), Cond.methodLink RX9 78 yX7_endOf, Cond.instanceMethod yX7_endOf, Cond.selects RX7 yX7_endOf yX7_endOf, Cond.code yX7_endOf cX7_endOf 2 (some .int), Cond.methodLink RX9 81 yX9_lineCost, Cond.methodLink RL 179 yX11_print, Cond.instanceMethod yX11_print, Cond.selects RX11 yX11_print yX11_print, Cond.code yX11_print cX11_print 5 (some .int), Cond.methodLink RX11 413 yX11_asksToPrint, Cond.instanceMethod yX11_asksToPrint, Cond.selects RX11 yX11_asksToPrint yX11_asksToPrint, Cond.code yX11_asksToPrint cX11_asksToPrint 5 (some .boolean), Cond.fieldLink RX11 261 "LayoutPressModel" "width" "I", Cond.fieldLink RX11 264 "LayoutPressModel" "ribbon" "I", Cond.fieldLink RX11 280 "LayoutPressModel" "endPrice" "I"]
def wsL_law0_r42 : List Cond := [Cond.methodLink RX11 416 yX11_printBest, Cond.instanceMethod yX11_printBest, Cond.selects RX11 yX11_printBest yX11_printBest, Cond.code yX11_printBest cX11_printBest 4 (some .int), Cond.fieldLink RX11 332 "LayoutPressModel" "givenMany" "I", Cond.methodLink RX11 407 yX11_bestOf, Cond.instanceMethod yX11_bestOf, Cond.selects RX11 yX11_bestOf yX11_bestOf, Cond.code yX11_bestOf cX11_bestOf 6 (some .int), Cond.fieldLink RX11 241 "LayoutPressModel" "stepMany" "I", Cond.fieldLink RX11 271 "LayoutPressModel" "stateMany" "I", Cond.methodLink RX11 317 yX11_laySteps, Cond.instanceMethod yX11_laySteps, Cond.selects RX11 yX11_laySteps yX11_laySteps, Cond.code yX11_laySteps cX11_laySteps 5 none, Cond.fieldLink RX11 238 "LayoutPressModel" "workMany" "I", Cond.methodLink RX11 247 yX11_later, Cond.instanceMethod yX11_later, Cond.selects RX11 yX11_later yX11_later, Cond.code yX11_later cX11_later 3 none, Cond.methodLink RX11 251 yX11_layNode, Cond.instanceMethod yX11_layNode, Cond.selects RX11 yX11_layNode yX11_layNode, Cond.code yX11_layNode cX11_layNode 4 none]
def wsL_law0_r43 : List Cond := [Cond.methodLink RX11 244 yX11_step, Cond.instanceMethod yX11_step, Cond.selects RX11 yX11_step yX11_step, Cond.code yX11_step cX11_step 4 (some .int), Cond.methodLink RX11 255 yX11_layRegions, Cond.instanceMethod yX11_layRegions, Cond.selects RX11 yX11_layRegions yX11_layRegions, Cond.code yX11_layRegions cX11_layRegions 4 none, Cond.methodLink RX11 258 yX11_endsLine, Cond.static yX11_endsLine, Cond.code yX11_endsLine cX11_endsLine 1 (some .boolean), Cond.methodLink RX11 320 yX11_beginAll, Cond.instanceMethod yX11_beginAll, Cond.selects RX11 yX11_beginAll yX11_beginAll, Cond.code yX11_beginAll cX11_beginAll 2 none, Cond.fieldLink RX11 268 "LayoutPressModel" "aheadMany" "I", Cond.methodLink RX11 323 yX11_takeStep, Cond.instanceMethod yX11_takeStep, Cond.selects RX11 yX11_takeStep yX11_takeStep, Cond.code yX11_takeStep cX11_takeStep 4 none, Cond.methodLink RX11 298 yX11_enterStep, Cond.instanceMethod yX11_enterStep, Cond.selects RX11 yX11_enterStep yX11_enterStep, Cond.code yX11_enterStep cX11_enterStep 7 none]
def wsL_law0_r44 : List Cond := [Cond.methodLink RX11 289 yX11_leafStep, Cond.instanceMethod yX11_leafStep, Cond.selects RX11 yX11_leafStep yX11_leafStep, Cond.code yX11_leafStep cX11_leafStep 5 none, Cond.methodLink RX11 283 yX11_signs, Cond.instanceMethod yX11_signs, Cond.selects RX11 yX11_signs yX11_signs, Cond.code yX11_signs cX11_signs 3 none, Cond.methodLink RX11 286 yX11_endLine, Cond.instanceMethod yX11_endLine, Cond.selects RX11 yX11_endLine yX11_endLine, Cond.code yX11_endLine cX11_endLine 2 none, Cond.methodLink RX11 277 yX11_lineCost, Cond.instanceMethod yX11_lineCost, Cond.selects RX11 yX11_lineCost yX11_lineCost, Cond.code yX11_lineCost cX11_lineCost 5 (some .int), Cond.methodLink RX11 292 yX11_aheadNumber, Cond.instanceMethod yX11_aheadNumber, Cond.selects RX11 yX11_aheadNumber yX11_aheadNumber, Cond.code yX11_aheadNumber cX11_aheadNumber 5 (some .int), Cond.constant RX11 267 (2147483647), Cond.methodLink RX11 295 yX11_fork, Cond.instanceMethod yX11_fork, Cond.selects RX11 yX11_fork yX11_fork]
def wsL_law0_r45 : List Cond := [Cond.code yX11_fork cX11_fork 2 (some .int), Cond.methodLink RX11 274 yX11_copyState, Cond.instanceMethod yX11_copyState, Cond.selects RX11 yX11_copyState yX11_copyState, Cond.code yX11_copyState cX11_copyState 3 none, Cond.methodLink RX11 301 yX11_leaveStep, Cond.instanceMethod yX11_leaveStep, Cond.selects RX11 yX11_leaveStep yX11_leaveStep, Cond.code yX11_leaveStep cX11_leaveStep 5 none, Cond.methodLink RX11 326 yX11_unite, Cond.instanceMethod yX11_unite, Cond.selects RX11 yX11_unite yX11_unite, Cond.code yX11_unite cX11_unite 4 none, Cond.fieldLink RX11 305 "LayoutPressModel" "round" "I", Cond.methodLink RX11 311 yX11_slotOf, Cond.instanceMethod yX11_slotOf, Cond.selects RX11 yX11_slotOf yX11_slotOf, Cond.code yX11_slotOf cX11_slotOf 4 (some .int), Cond.constant RX11 304 (262143), Cond.methodLink RX11 308 yX11_areAlike, Cond.instanceMethod yX11_areAlike, Cond.selects RX11 yX11_areAlike yX11_areAlike, Cond.code yX11_areAlike cX11_areAlike 4 (some .boolean), Cond.methodLink RX11 314 yX11_isBetter]
def wsL_law0_r46 : List Cond := [Cond.instanceMethod yX11_isBetter, Cond.selects RX11 yX11_isBetter yX11_isBetter, Cond.code yX11_isBetter cX11_isBetter 3 (some .boolean), Cond.methodLink RX11 410 yX11_record, Cond.instanceMethod yX11_record, Cond.selects RX11 yX11_record yX11_record, Cond.code yX11_record cX11_record 2 (some .int), Cond.fieldLink RX11 365 "LayoutPressModel" "rowMany" "I", Cond.fieldLink RX11 385 "LayoutPressModel" "keepMany" "I", Cond.fieldLink RX11 350 "LayoutPressModel" "lineNow" "I", Cond.fieldLink RX11 398 "LayoutPressModel" "printedLines" "I", Cond.fieldLink RX11 329 "LayoutPressModel" "toldMany" "I", Cond.fieldLink RX11 401 "LayoutPressModel" "printedWays" "I", Cond.fieldLink RX11 404 "LayoutPressModel" "isBroken" "Z", Cond.fieldLink RX11 347 "LayoutPressModel" "cost" "I", Cond.methodLink RX11 395 yX11_play, Cond.instanceMethod yX11_play, Cond.selects RX11 yX11_play yX11_play, Cond.code yX11_play cX11_play 5 none, Cond.fieldLink RX11 356 "LayoutPressModel" "column" "I", Cond.fieldLink RX11 341 "LayoutPressModel" "start" "I", Cond.fieldLink RX11 339 "LayoutPressModel" "end" "I", Cond.fieldLink RX11 359 "LayoutPressModel" "hasRemark" "Z", Cond.fieldLink RX11 362 "LayoutPressModel" "flatBy" "I"]
def wsL_law0_r47 : List Cond := [Cond.fieldLink RX11 353 "LayoutPressModel" "indent" "I", Cond.fieldLink RX11 375 "LayoutPressModel" "openMany" "I", Cond.fieldLink RX11 382 "LayoutPressModel" "pass" "I", Cond.fieldLink RX11 335 "LayoutPressModel" "isImpossible" "Z", Cond.fieldLink RX11 344 "LayoutPressModel" "isOver" "Z", Cond.methodLink RX11 388 yX11_playEnter, Cond.instanceMethod yX11_playEnter, Cond.selects RX11 yX11_playEnter yX11_playEnter, Cond.code yX11_playEnter cX11_playEnter 6 none, Cond.methodLink RX11 371 yX11_playLeaf, Cond.instanceMethod yX11_playLeaf, Cond.selects RX11 yX11_playLeaf yX11_playLeaf, Cond.code yX11_playLeaf cX11_playLeaf 6 none, Cond.methodLink RX11 368 yX11_playEnd, Cond.instanceMethod yX11_playEnd, Cond.selects RX11 yX11_playEnd yX11_playEnd, Cond.code yX11_playEnd cX11_playEnd 2 none, Cond.methodLink RX11 378 yX11_wayNow, Cond.instanceMethod yX11_wayNow, Cond.selects RX11 yX11_wayNow yX11_wayNow, Cond.code yX11_wayNow cX11_wayNow 2 (some .int), Cond.methodLink RX11 391 yX11_playLeave, Cond.instanceMethod yX11_playLeave, Cond.selects RX11 yX11_playLeave yX11_playLeave]
def wsL_law0_r48 : List Cond := [Cond.code yX11_playLeave cX11_playLeave 5 none, Cond.methodLink RL 180 yL_printByAll, Cond.static yL_printByAll, Cond.codeWith yL_printByAll cL_printByAll 7 (some .int) [(0, 14, 17, 37), (0, 14, 21, 13), (0, 14, 25, 15)], Cond.methodLink RL 77 yX10_printByAll, Cond.instanceMethod yX10_printByAll, Cond.selects RX10 yX10_printByAll yX10_printByAll, Cond.code yX10_printByAll cX10_printByAll 6 (some .int), Cond.methodLink RX10 168 yX1_writeBestOfAll, Cond.instanceMethod yX1_writeBestOfAll, Cond.selects RX1 yX1_writeBestOfAll yX1_writeBestOfAll, Cond.code yX1_writeBestOfAll cX1_writeBestOfAll 15 (some .boolean), Cond.methodLink RX1 50 yX9_costOf, Cond.methodLink RX1 68 yX1_lastFirstWay, Cond.instanceMethod yX1_lastFirstWay, Cond.selects RX1 yX1_lastFirstWay yX1_lastFirstWay, Cond.code yX1_lastFirstWay cX1_lastFirstWay 2 (some .int), Cond.methodLink RL 182 yX11_printByAll, Cond.instanceMethod yX11_printByAll, Cond.selects RX11 yX11_printByAll yX11_printByAll, Cond.code yX11_printByAll cX11_printByAll 10 (some .int), Cond.methodLink RX11 419 yX11_playFirst, Cond.instanceMethod yX11_playFirst, Cond.selects RX11 yX11_playFirst yX11_playFirst]
def wsL_law0_r49 : List Cond := [Cond.code yX11_playFirst cX11_playFirst 2 none, Cond.methodLink RX11 422 yX11_goesAhead, Cond.instanceMethod yX11_goesAhead, Cond.selects RX11 yX11_goesAhead yX11_goesAhead, Cond.code yX11_goesAhead cX11_goesAhead 5 (some .boolean), Cond.methodLink RX11 425 yX11_goesOn, Cond.instanceMethod yX11_goesOn, Cond.selects RX11 yX11_goesOn yX11_goesOn, Cond.code yX11_goesOn cX11_goesOn 2 (some .boolean), Cond.methodLink RL 183 yL_printGreedy, Cond.static yL_printGreedy, Cond.codeWith yL_printGreedy cL_printGreedy 7 (some .int) [(0, 14, 17, 37), (0, 14, 21, 13), (0, 14, 25, 15)], Cond.methodLink RL 80 yX10_printGreedy, Cond.instanceMethod yX10_printGreedy, Cond.selects RX10 yX10_printGreedy yX10_printGreedy, Cond.code yX10_printGreedy cX10_printGreedy 6 (some .int), Cond.methodLink RX10 171 yX1_writeGreedily, Cond.instanceMethod yX1_writeGreedily, Cond.selects RX1 yX1_writeGreedily yX1_writeGreedily, Cond.code yX1_writeGreedily cX1_writeGreedily 4 (some .boolean), Cond.methodLink RX1 80 yX1_presentLineFits, Cond.instanceMethod yX1_presentLineFits, Cond.selects RX1 yX1_presentLineFits yX1_presentLineFits, Cond.code yX1_presentLineFits cX1_presentLineFits 2 (some .boolean)]
def wsL_law0_r50 : List Cond := [Cond.methodLink RX1 87 yX7_firstOf, Cond.methodLink RX1 90 yX7_endOf, Cond.methodLink RX1 93 yX9_holds, Cond.instanceMethod yX9_holds, Cond.selects RX9 yX9_holds yX9_holds, Cond.code yX9_holds cX9_holds 3 (some .boolean), Cond.methodLink RL 185 yX11_printGreedy, Cond.instanceMethod yX11_printGreedy, Cond.selects RX11 yX11_printGreedy yX11_printGreedy, Cond.code yX11_printGreedy cX11_printGreedy 6 (some .int), Cond.methodLink RX11 429 yX11_fitsNow, Cond.instanceMethod yX11_fitsNow, Cond.selects RX11 yX11_fitsNow yX11_fitsNow, Cond.code yX11_fitsNow cX11_fitsNow 1 (some .boolean), Cond.methodLink RL 186 yX10_lines, Cond.instanceMethod yX10_lines, Cond.selects RX10 yX10_lines yX10_lines, Cond.code yX10_lines cX10_lines 1 (some .int), Cond.methodLink RL 189 yX11_lines, Cond.instanceMethod yX11_lines, Cond.selects RX11 yX11_lines yX11_lines, Cond.code yX11_lines cX11_lines 1 (some .int), Cond.methodLink RL 190 yL_length, Cond.static yL_length]
def wsL_law0_r51 : List Cond := [Cond.codeWith yL_length cL_length 4 (some .int) [(0, 9, 12, 37)], Cond.methodLink RL 83 yX10_length, Cond.instanceMethod yX10_length, Cond.selects RX10 yX10_length yX10_length, Cond.code yX10_length cX10_length 2 (some .int), Cond.methodLink RX10 179 yX10_checkLine, Cond.instanceMethod yX10_checkLine, Cond.selects RX10 yX10_checkLine yX10_checkLine, Cond.code yX10_checkLine cX10_checkLine 2 none, Cond.methodLink RX10 183 yX7_endOf, Cond.methodLink RL 192 yX11_length, Cond.instanceMethod yX11_length, Cond.selects RX11 yX11_length yX11_length, Cond.code yX11_length cX11_length 2 (some .int), Cond.methodLink RX11 432 yX11_isLine, Cond.instanceMethod yX11_isLine, Cond.selects RX11 yX11_isLine yX11_isLine, Cond.code yX11_isLine cX11_isLine 2 (some .boolean), Cond.methodLink RX11 435 yX11_lengthOf, Cond.instanceMethod yX11_lengthOf, Cond.selects RX11 yX11_lengthOf yX11_lengthOf, Cond.code yX11_lengthOf cX11_lengthOf 4 (some .int), Cond.methodLink RL 193 yL_signAt, Cond.static yL_signAt]
def wsL_law0_r52 : List Cond := [Cond.codeWith yL_signAt cL_signAt 5 (some .int) [(0, 10, 13, 37)], Cond.methodLink RL 86 yX10_signAt, Cond.instanceMethod yX10_signAt, Cond.selects RX10 yX10_signAt yX10_signAt, Cond.code yX10_signAt cX10_signAt 4 (some .char), Cond.methodLink RX10 187 yX10_checkColumn, Cond.instanceMethod yX10_checkColumn, Cond.selects RX10 yX10_checkColumn yX10_checkColumn, Cond.code yX10_checkColumn cX10_checkColumn 3 none, Cond.methodLink RX10 191 yX7_ownerOf, Cond.instanceMethod yX7_ownerOf, Cond.selects RX7 yX7_ownerOf yX7_ownerOf, Cond.code yX7_ownerOf cX7_ownerOf 6 (some (.object "LayoutPress$Node")), Cond.methodLink RX10 195 yX4_sign, Cond.instanceMethod yX4_sign, Cond.selects RX4 yX4_sign yX4_sign, Cond.code yX4_sign cX4_sign 1 (some .char), Cond.fieldLink RX4 123 "LayoutPress$Kind" "REMARK" "LLayoutPress$Kind;", Cond.methodLink RL 195 yX11_signAt, Cond.instanceMethod yX11_signAt, Cond.selects RX11 yX11_signAt yX11_signAt, Cond.code yX11_signAt cX11_signAt 5 (some .char), Cond.methodLink RX11 438 yX11_isPlace, Cond.instanceMethod yX11_isPlace]
def wsL_law0_r53 : List Cond := [Cond.selects RX11 yX11_isPlace yX11_isPlace, Cond.code yX11_isPlace cX11_isPlace 3 (some .boolean), Cond.methodLink RX11 441 yX11_rowAt, Cond.instanceMethod yX11_rowAt, Cond.selects RX11 yX11_rowAt yX11_rowAt, Cond.code yX11_rowAt cX11_rowAt 6 (some .int), Cond.methodLink RL 196 yL_nodeAt, Cond.static yL_nodeAt, Cond.codeWith yL_nodeAt cL_nodeAt 5 (some .int) [(0, 10, 13, 37)], Cond.methodLink RL 90 yX10_nodeAt, Cond.instanceMethod yX10_nodeAt, Cond.selects RX10 yX10_nodeAt yX10_nodeAt, Cond.code yX10_nodeAt cX10_nodeAt 4 (some .int), Cond.methodLink RL 198 yX11_nodeAt, Cond.instanceMethod yX11_nodeAt, Cond.selects RX11 yX11_nodeAt yX11_nodeAt, Cond.code yX11_nodeAt cX11_nodeAt 4 (some .int), Cond.methodLink RL 199 yL_placeOf, Cond.static yL_placeOf, Cond.codeWith yL_placeOf cL_placeOf 4 (some .int) [(0, 9, 12, 37)], Cond.methodLink RL 93 yX10_placeOf, Cond.instanceMethod yX10_placeOf, Cond.selects RX10 yX10_placeOf yX10_placeOf, Cond.code yX10_placeOf cX10_placeOf 2 (some .int)]
def wsL_law0_r54 : List Cond := [Cond.methodLink RX10 202 yX7_startOf, Cond.instanceMethod yX7_startOf, Cond.selects RX7 yX7_startOf yX7_startOf, Cond.code yX7_startOf cX7_startOf 3 (some .int), Cond.methodLink RL 201 yX11_placeOf, Cond.instanceMethod yX11_placeOf, Cond.selects RX11 yX11_placeOf yX11_placeOf, Cond.code yX11_placeOf cX11_placeOf 2 (some .int), Cond.methodLink RL 202 yX10_decisions, Cond.instanceMethod yX10_decisions, Cond.selects RX10 yX10_decisions yX10_decisions, Cond.code yX10_decisions cX10_decisions 1 (some .int), Cond.methodLink RL 205 yX11_decisions, Cond.instanceMethod yX11_decisions, Cond.selects RX11 yX11_decisions yX11_decisions, Cond.code yX11_decisions cX11_decisions 1 (some .int), Cond.methodLink RL 206 yL_wayAt, Cond.static yL_wayAt, Cond.codeWith yL_wayAt cL_wayAt 4 (some .int) [(0, 9, 12, 37)], Cond.methodLink RL 96 yX10_wayAt, Cond.instanceMethod yX10_wayAt, Cond.selects RX10 yX10_wayAt yX10_wayAt, Cond.code yX10_wayAt cX10_wayAt 2 (some .int), Cond.methodLink RX10 216 yX10_wayIn]
def wsL_law0_r55 : List Cond := [Cond.methodLink RL 208 yX11_wayAt, Cond.instanceMethod yX11_wayAt, Cond.selects RX11 yX11_wayAt yX11_wayAt, Cond.code yX11_wayAt cX11_wayAt 2 (some .int), Cond.methodLink RL 209 yL_breakPages, Cond.static yL_breakPages, Cond.codeWith yL_breakPages cL_breakPages 4 (some .int) [(0, 9, 12, 13), (0, 9, 15, 15)], Cond.methodLink RL 99 yX10_breakPages, Cond.instanceMethod yX10_breakPages, Cond.selects RX10 yX10_breakPages yX10_breakPages, Cond.code yX10_breakPages cX10_breakPages 2 (some .int), Cond.methodLink RX10 222 yX5_breakSheet, Cond.instanceMethod yX5_breakSheet, Cond.selects RX5 yX5_breakSheet yX5_breakSheet, Cond.code yX5_breakSheet cX5_breakSheet 5 (some .int), Cond.methodLink RX5 34 Lib.Math.min.name, Cond.methodLink RX5 40 yX5_choosePage, Cond.instanceMethod yX5_choosePage, Cond.selects RX5 yX5_choosePage yX5_choosePage, Cond.code yX5_choosePage cX5_choosePage 12 none, Cond.methodLink RX5 48 yX7_cutCostOf, Cond.instanceMethod yX7_cutCostOf, Cond.selects RX7 yX7_cutCostOf yX7_cutCostOf, Cond.code yX7_cutCostOf cX7_cutCostOf 2 (some .int)]
def wsL_law0_r56 : List Cond := [Cond.methodLink RX5 44 yX5_numberLines, Cond.instanceMethod yX5_numberLines, Cond.selects RX5 yX5_numberLines yX5_numberLines, Cond.code yX5_numberLines cX5_numberLines 5 none, Cond.methodLink RL 211 yX11_breakPages, Cond.instanceMethod yX11_breakPages, Cond.selects RX11 yX11_breakPages yX11_breakPages, Cond.code yX11_breakPages cX11_breakPages 9 (some .int), Cond.methodLink RX11 444 yX11_endCost, Cond.instanceMethod yX11_endCost, Cond.selects RX11 yX11_endCost yX11_endCost, Cond.code yX11_endCost cX11_endCost 4 (some .int), Cond.methodLink RL 212 yL_pageOf, Cond.static yL_pageOf, Cond.codeWith yL_pageOf cL_pageOf 4 (some .int) [(0, 9, 12, 37), (0, 9, 15, 15)], Cond.methodLink RL 102 yX10_pageOf, Cond.instanceMethod yX10_pageOf, Cond.selects RX10 yX10_pageOf yX10_pageOf, Cond.code yX10_pageOf cX10_pageOf 2 (some .int), Cond.methodLink RX10 231 yX5_pageWith, Cond.instanceMethod yX5_pageWith, Cond.selects RX5 yX5_pageWith yX5_pageWith, Cond.code yX5_pageWith cX5_pageWith 2 (some .int), Cond.methodLink RL 214 yX11_pageOf]
def wsL_law0_r57 : List Cond := [Cond.instanceMethod yX11_pageOf, Cond.selects RX11 yX11_pageOf yX11_pageOf, Cond.code yX11_pageOf cX11_pageOf 2 (some .int)]
def wsL_law0 : List Cond := (wsL_law0_r1 ++ (wsL_law0_r2 ++ (wsL_law0_r3 ++ (wsL_law0_r4 ++ (wsL_law0_r5 ++ (wsL_law0_r6 ++ (wsL_law0_r7 ++ (wsL_law0_r8 ++ (wsL_law0_r9 ++ (wsL_law0_r10 ++ (wsL_law0_r11 ++ (wsL_law0_r12 ++ (wsL_law0_r13 ++ (wsL_law0_r14 ++ (wsL_law0_r15 ++ (wsL_law0_r16 ++ (wsL_law0_r17 ++ (wsL_law0_r18 ++ (wsL_law0_r19 ++ (wsL_law0_r20 ++ (wsL_law0_r21 ++ (wsL_law0_r22 ++ (wsL_law0_r23 ++ (wsL_law0_r24 ++ (wsL_law0_r25 ++ (wsL_law0_r26 ++ (wsL_law0_r27 ++ (wsL_law0_r28 ++ (wsL_law0_r29 ++ (wsL_law0_r30 ++ (wsL_law0_r31 ++ (wsL_law0_r32 ++ (wsL_law0_r33 ++ (wsL_law0_r34 ++ (wsL_law0_r35 ++ (wsL_law0_r36 ++ (wsL_law0_r37 ++ (wsL_law0_r38 ++ (wsL_law0_r39 ++ (wsL_law0_r40 ++ (wsL_law0_r41 ++ (wsL_law0_r42 ++ (wsL_law0_r43 ++ (wsL_law0_r44 ++ (wsL_law0_r45 ++ (wsL_law0_r46 ++ (wsL_law0_r47 ++ (wsL_law0_r48 ++ (wsL_law0_r49 ++ (wsL_law0_r50 ++ (wsL_law0_r51 ++ (wsL_law0_r52 ++ (wsL_law0_r53 ++ (wsL_law0_r54 ++ (wsL_law0_r55 ++ (wsL_law0_r56 ++ wsL_law0_r57)))))))))))))))))))))))))))))))))))))))))))))))))))))))) ++ wsX100 ++ wsX110 ++ wsX90 ++ wsX60 ++ wsX10 ++ wsX50 ++ wsX70 ++ wsX20 ++ wsX80 ++ wsX40 ++ wsJ40 ++ wsJx000600 ++ ([] : List Cond)
def wsL_law : List Cond := wsL_law0 ++ (vx_atM "java/lang/ArrayIndexOutOfBoundsException" ["java/lang/IndexOutOfBoundsException", "java/lang/RuntimeException", "java/lang/Exception"]).filter goodWord ++ (vx_atS RX10 238 "java/lang/IllegalArgumentException" ["java/lang/RuntimeException", "java/lang/Exception"]).filter goodWord ++ (vx_atS RX10 130 "java/lang/IllegalStateException" ["java/lang/RuntimeException", "java/lang/Exception"]).filter goodWord ++ (vx_atS RX10 212 "java/lang/IndexOutOfBoundsException" ["java/lang/RuntimeException", "java/lang/Exception"]).filter goodWord
set_option maxRecDepth 20000 in
theorem wsL_law_in0 : ∀ w ∈ wsL_law0, w ∈ lw_tbl := fun w h => (goodIn_p wsL_law0 [133, 136, 143, 164, 170, 195, 289, 295, 299, 385, 1645, 448, 451, 526, 531, 540, 616, 637, 641, 1920, 1923, 1927, 1916, 648, 1931, 657, 1935, 1939, 665, 1943, 673, 1947, 681, 1951, 690, 696, 715, 719, 732, 725, 736, 1955, 1959, 1963, 1967, 1971, 1974, 1979, 751, 1983, 1987, 760, 1991, 768, 1995, 776, 1999, 784, 2003, 792, 2007, 800, 2011, 809, 2015, 818, 2019, 431, 2023, 827, 2027, 834, 2031, 841, 845, 849, 853, 860, 864, 1405, 869, 873, 878, 882, 890, 1342, 1346, 1350, 1258, 1193, 1234, 1354, 1358, 1276, 1280, 1284, 1288, 908, 911, 914, 1263, 1180, 1185, 1267, 1362, 1367, 1373, 1378, 1382, 1387, 1391, 1395, 894, 1328, 1333, 1337, 1254, 1208, 988, 1214, 1217, 1225, 1272, 900, 904, 1196, 1189, 1200, 1204, 1238, 1242, 1246, 1250, 1292, 1296, 1299, 1303, 1307, 1311, 1314, 1319, 1323, 1400, 1410, 1414, 1418, 1422, 1427, 1431, 1435, 1441, 1446, 1452, 1457, 1461, 1466, 1471, 1476, 1481, 1485, 1489, 1493, 1497, 1501, 2035, 2039, 2043, 2047, 2051, 2055, 2059, 2063, 2067, 2070, 2074, 2078, 2082, 2086, 2090, 2094, 2098, 2102, 2107, 2111, 2115, 2119, 2123, 2128, 2132, 2136, 2140, 2144, 2148, 2152, 2156, 2160, 1509, 1514, 1519, 2164, 2168, 2172, 2176, 1527, 1531, 1535, 1541, 2180, 2184, 435, 2188, 1549, 1553, 2192, 2196, 2200, 1562, 1566, 1571, 1575, 2204, 2208, 2212, 1583, 2216, 1590, 1594, 2220, 439, 2224, 1601, 2228, 1610, 1615, 1620, 1624, 1628, 2232, 2236, 1635, 1640, 2240] (by decide +kernel) (by decide +kernel) w h).1
theorem wsL_law_x0 : ∀ w ∈ (vx_atM "java/lang/ArrayIndexOutOfBoundsException" ["java/lang/IndexOutOfBoundsException", "java/lang/RuntimeException", "java/lang/Exception"]).filter goodWord, w ∈ lw_tbl := by decide +kernel
theorem wsL_law_x1 : ∀ w ∈ (vx_atS RX10 238 "java/lang/IllegalArgumentException" ["java/lang/RuntimeException", "java/lang/Exception"]).filter goodWord, w ∈ lw_tbl := by decide +kernel
theorem wsL_law_x2 : ∀ w ∈ (vx_atS RX10 130 "java/lang/IllegalStateException" ["java/lang/RuntimeException", "java/lang/Exception"]).filter goodWord, w ∈ lw_tbl := by decide +kernel
theorem wsL_law_x3 : ∀ w ∈ (vx_atS RX10 212 "java/lang/IndexOutOfBoundsException" ["java/lang/RuntimeException", "java/lang/Exception"]).filter goodWord, w ∈ lw_tbl := by decide +kernel
theorem wsL_law_in : ∀ w ∈ wsL_law, w ∈ lw_tbl := fun w h => (List.mem_append.mp h).elim (fun h => (List.mem_append.mp h).elim (fun h => (List.mem_append.mp h).elim (fun h => (List.mem_append.mp h).elim (fun h => wsL_law_in0 w h) (fun h => wsL_law_x0 w h)) (fun h => wsL_law_x1 w h)) (fun h => wsL_law_x2 w h)) (fun h => wsL_law_x3 w h)
theorem inX0 : ∀ w ∈ wsX00, w ∈ lw_tbl := by decide +kernel
theorem inlX1 : ∀ w ∈ wsX10, w ∈ wsL_law := fun _ h => List.mem_append_left _ (List.mem_append_left _ (List.mem_append_left _ (List.mem_append_left _ (List.mem_append_left _ (List.mem_append_left _ (List.mem_append_left _ (List.mem_append_left _ (List.mem_append_left _ (List.mem_append_left _ (List.mem_append_left _ (List.mem_append_left _ (List.mem_append_right _ h))))))))))))
theorem inX1 : ∀ w ∈ wsX10, w ∈ lw_tbl := fun w h => wsL_law_in w (inlX1 w h)
theorem inlX2 : ∀ w ∈ wsX20, w ∈ wsL_law := fun _ h => List.mem_append_left _ (List.mem_append_left _ (List.mem_append_left _ (List.mem_append_left _ (List.mem_append_left _ (List.mem_append_left _ (List.mem_append_left _ (List.mem_append_left _ (List.mem_append_left _ (List.mem_append_right _ h)))))))))
theorem inX2 : ∀ w ∈ wsX20, w ∈ lw_tbl := fun w h => wsL_law_in w (inlX2 w h)
theorem inX3 : ∀ w ∈ wsX30, w ∈ lw_tbl := by decide +kernel
theorem inlX4 : ∀ w ∈ wsX40, w ∈ wsL_law := fun _ h => List.mem_append_left _ (List.mem_append_left _ (List.mem_append_left _ (List.mem_append_left _ (List.mem_append_left _ (List.mem_append_left _ (List.mem_append_left _ (List.mem_append_right _ h)))))))
theorem inX4 : ∀ w ∈ wsX40, w ∈ lw_tbl := fun w h => wsL_law_in w (inlX4 w h)
theorem inlX5 : ∀ w ∈ wsX50, w ∈ wsL_law := fun _ h => List.mem_append_left _ (List.mem_append_left _ (List.mem_append_left _ (List.mem_append_left _ (List.mem_append_left _ (List.mem_append_left _ (List.mem_append_left _ (List.mem_append_left _ (List.mem_append_left _ (List.mem_append_left _ (List.mem_append_left _ (List.mem_append_right _ h)))))))))))
theorem inX5 : ∀ w ∈ wsX50, w ∈ lw_tbl := fun w h => wsL_law_in w (inlX5 w h)
theorem inlX6 : ∀ w ∈ wsX60, w ∈ wsL_law := fun _ h => List.mem_append_left _ (List.mem_append_left _ (List.mem_append_left _ (List.mem_append_left _ (List.mem_append_left _ (List.mem_append_left _ (List.mem_append_left _ (List.mem_append_left _ (List.mem_append_left _ (List.mem_append_left _ (List.mem_append_left _ (List.mem_append_left _ (List.mem_append_left _ (List.mem_append_right _ h)))))))))))))
theorem inX6 : ∀ w ∈ wsX60, w ∈ lw_tbl := fun w h => wsL_law_in w (inlX6 w h)
theorem inlX7 : ∀ w ∈ wsX70, w ∈ wsL_law := fun _ h => List.mem_append_left _ (List.mem_append_left _ (List.mem_append_left _ (List.mem_append_left _ (List.mem_append_left _ (List.mem_append_left _ (List.mem_append_left _ (List.mem_append_left _ (List.mem_append_left _ (List.mem_append_left _ (List.mem_append_right _ h))))))))))
theorem inX7 : ∀ w ∈ wsX70, w ∈ lw_tbl := fun w h => wsL_law_in w (inlX7 w h)
theorem inlX8 : ∀ w ∈ wsX80, w ∈ wsL_law := fun _ h => List.mem_append_left _ (List.mem_append_left _ (List.mem_append_left _ (List.mem_append_left _ (List.mem_append_left _ (List.mem_append_left _ (List.mem_append_left _ (List.mem_append_left _ (List.mem_append_right _ h))))))))
theorem inX8 : ∀ w ∈ wsX80, w ∈ lw_tbl := fun w h => wsL_law_in w (inlX8 w h)
theorem inlX9 : ∀ w ∈ wsX90, w ∈ wsL_law := fun _ h => List.mem_append_left _ (List.mem_append_left _ (List.mem_append_left _ (List.mem_append_left _ (List.mem_append_left _ (List.mem_append_left _ (List.mem_append_left _ (List.mem_append_left _ (List.mem_append_left _ (List.mem_append_left _ (List.mem_append_left _ (List.mem_append_left _ (List.mem_append_left _ (List.mem_append_left _ (List.mem_append_right _ h))))))))))))))
theorem inX9 : ∀ w ∈ wsX90, w ∈ lw_tbl := fun w h => wsL_law_in w (inlX9 w h)
theorem inlX10 : ∀ w ∈ wsX100, w ∈ wsL_law := fun _ h => List.mem_append_left _ (List.mem_append_left _ (List.mem_append_left _ (List.mem_append_left _ (List.mem_append_left _ (List.mem_append_left _ (List.mem_append_left _ (List.mem_append_left _ (List.mem_append_left _ (List.mem_append_left _ (List.mem_append_left _ (List.mem_append_left _ (List.mem_append_left _ (List.mem_append_left _ (List.mem_append_left _ (List.mem_append_left _ (List.mem_append_right _ h))))))))))))))))
theorem inX10 : ∀ w ∈ wsX100, w ∈ lw_tbl := fun w h => wsL_law_in w (inlX10 w h)
theorem inlX11 : ∀ w ∈ wsX110, w ∈ wsL_law := fun _ h => List.mem_append_left _ (List.mem_append_left _ (List.mem_append_left _ (List.mem_append_left _ (List.mem_append_left _ (List.mem_append_left _ (List.mem_append_left _ (List.mem_append_left _ (List.mem_append_left _ (List.mem_append_left _ (List.mem_append_left _ (List.mem_append_left _ (List.mem_append_left _ (List.mem_append_left _ (List.mem_append_left _ (List.mem_append_right _ h)))))))))))))))
theorem inX11 : ∀ w ∈ wsX110, w ∈ lw_tbl := fun w h => wsL_law_in w (inlX11 w h)
theorem inJx145de : ∀ w ∈ wsJx145de0, w ∈ lw_tbl := by decide +kernel
theorem inJ5 : ∀ w ∈ wsJ50, w ∈ lw_tbl := by decide +kernel
theorem inJx2cfe8 : ∀ w ∈ wsJx2cfe80, w ∈ lw_tbl := by decide +kernel
theorem inlJx00060 : ∀ w ∈ wsJx000600, w ∈ wsL_law := fun _ h => List.mem_append_left _ (List.mem_append_left _ (List.mem_append_left _ (List.mem_append_left _ (List.mem_append_left _ (List.mem_append_right _ h)))))
theorem inJx00060 : ∀ w ∈ wsJx000600, w ∈ lw_tbl := fun w h => wsL_law_in w (inlJx00060 w h)
theorem inJx9f9b0 : ∀ w ∈ wsJx9f9b00, w ∈ lw_tbl := by decide +kernel
theorem inJx8e188 : ∀ w ∈ wsJx8e1880, w ∈ lw_tbl := by decide +kernel
theorem inJxb160c : ∀ w ∈ wsJxb160c0, w ∈ lw_tbl := by decide +kernel
theorem inJx29ce0 : ∀ w ∈ wsJx29ce00, w ∈ lw_tbl := by decide +kernel
theorem inJ6 : ∀ w ∈ wsJ60, w ∈ lw_tbl := by decide +kernel
theorem inJ9 : ∀ w ∈ wsJ90, w ∈ lw_tbl := by decide +kernel
theorem inJxd2413 : ∀ w ∈ wsJxd24130, w ∈ lw_tbl := by decide +kernel
theorem inJ0 : ∀ w ∈ wsJ00, w ∈ lw_tbl := by decide +kernel
theorem inlJ4 : ∀ w ∈ wsJ40, w ∈ wsL_law := fun _ h => List.mem_append_left _ (List.mem_append_left _ (List.mem_append_left _ (List.mem_append_left _ (List.mem_append_left _ (List.mem_append_left _ (List.mem_append_right _ h))))))
theorem inJ4 : ∀ w ∈ wsJ40, w ∈ lw_tbl := fun w h => wsL_law_in w (inlJ4 w h)
theorem inJ1 : ∀ w ∈ wsJ10, w ∈ lw_tbl := by decide +kernel
theorem inJ2 : ∀ w ∈ wsJ20, w ∈ lw_tbl := by decide +kernel
theorem inJ10 : ∀ w ∈ wsJ100, w ∈ lw_tbl := by decide +kernel
theorem inJxfd54e : ∀ w ∈ wsJxfd54e0, w ∈ lw_tbl := by decide +kernel
theorem inJx3cf43 : ∀ w ∈ wsJx3cf430, w ∈ lw_tbl := by decide +kernel
theorem inJ7 : ∀ w ∈ wsJ70, w ∈ lw_tbl := by decide +kernel
theorem inJ8 : ∀ w ∈ wsJ80, w ∈ lw_tbl := by decide +kernel
theorem inJ3 : ∀ w ∈ wsJ30, w ∈ lw_tbl := by decide +kernel
set_option maxRecDepth 20000 in
theorem ggX1_init_X7_init : GoodIn wsX1_init wsX7_init := goodIn_r _ [11, 12, 2, 3, 13, 14, 15, 16, 17, 18, 19, 20, 21, 22, 23, 24, 25, 33, 34, 35, 36, 37, 38, 39, 40, 41, 42, 43, 44, 45, 46, 47] (by decide +kernel) (by decide +kernel)
set_option maxRecDepth 20000 in
theorem gX1_init_X7_init : GoodIn wsX1_init (wsX7_init) := ggX1_init_X7_init
theorem dX1_init_0 : decode cX1_init 0 = .ok (.aload_n 0, 1) := by decide +kernel
theorem dX1_init_1 : decode cX1_init 1 = .ok (.invokespecial 3, 3) := by decide +kernel
theorem dX1_init_4 : decode cX1_init 4 = .ok (.aload_n 0, 1) := by decide +kernel
theorem dX1_init_5 : decode cX1_init 5 = .ok (.aload_n 1, 1) := by decide +kernel
theorem dX1_init_6 : decode cX1_init 6 = .ok (.putfield 9, 3) := by decide +kernel
theorem dX1_init_9 : decode cX1_init 9 = .ok (.aload_n 0, 1) := by decide +kernel
theorem dX1_init_10 : decode cX1_init 10 = .ok (.new 15, 3) := by decide +kernel
theorem dX1_init_13 : decode cX1_init 13 = .ok (.dup, 1) := by decide +kernel
theorem dX1_init_14 : decode cX1_init 14 = .ok (.invokespecial 17, 3) := by decide +kernel
theorem dX1_init_17 : decode cX1_init 17 = .ok (.putfield 18, 3) := by decide +kernel
theorem dX1_init_20 : decode cX1_init 20 = .ok (.return_, 1) := by decide +kernel
set_option maxRecDepth 20000 in
theorem ggX1_put_Jx29ce0_ordinal_8abf5 : GoodIn wsX1_put wsJx29ce0_ordinal_8abf5 := goodIn_r _ [22, 23] (by decide +kernel) (by decide +kernel)
set_option maxRecDepth 20000 in
theorem gX1_put_Jx29ce0_ordinal_8abf5_u120X3 : GoodIn wsX1_put (va_wsU RX1 120 RX3 "java/lang/Enum" ⟨"LayoutPress$Kind", "ordinal", "()I"⟩ yJx29ce0_ordinal_8abf5 wsJx29ce0_ordinal_8abf5) := goodIn_app (goodIn_of _ (by decide +kernel)) ggX1_put_Jx29ce0_ordinal_8abf5
theorem dX2_init_0 : decode cX2_init 0 = .ok (.aload_n 0, 1) := by decide +kernel
theorem dX2_init_1 : decode cX2_init 1 = .ok (.invokespecial 3, 3) := by decide +kernel
theorem dX2_init_4 : decode cX2_init 4 = .ok (.aload_n 0, 1) := by decide +kernel
theorem dX2_init_5 : decode cX2_init 5 = .ok (.bipush 61, 2) := by decide +kernel
theorem dX2_init_7 : decode cX2_init 7 = .ok (.newarray .int, 2) := by decide +kernel
theorem dX2_init_9 : decode cX2_init 9 = .ok (.putfield 11, 3) := by decide +kernel
theorem dX2_init_12 : decode cX2_init 12 = .ok (.aload_n 0, 1) := by decide +kernel
theorem dX2_init_13 : decode cX2_init 13 = .ok (.bipush 61, 2) := by decide +kernel
theorem dX2_init_15 : decode cX2_init 15 = .ok (.newarray .int, 2) := by decide +kernel
theorem dX2_init_17 : decode cX2_init 17 = .ok (.putfield 15, 3) := by decide +kernel
theorem dX2_init_20 : decode cX2_init 20 = .ok (.aload_n 0, 1) := by decide +kernel
theorem dX2_init_21 : decode cX2_init 21 = .ok (.sipush 256, 3) := by decide +kernel
theorem dX2_init_24 : decode cX2_init 24 = .ok (.newarray .int, 2) := by decide +kernel
theorem dX2_init_26 : decode cX2_init 26 = .ok (.putfield 18, 3) := by decide +kernel
theorem dX2_init_29 : decode cX2_init 29 = .ok (.aload_n 0, 1) := by decide +kernel
theorem dX2_init_30 : decode cX2_init 30 = .ok (.bipush 61, 2) := by decide +kernel
theorem dX2_init_32 : decode cX2_init 32 = .ok (.newarray .int, 2) := by decide +kernel
theorem dX2_init_34 : decode cX2_init 34 = .ok (.putfield 21, 3) := by decide +kernel
theorem dX2_init_37 : decode cX2_init 37 = .ok (.return_, 1) := by decide +kernel
theorem dX3_endsLine_0 : decode cX3_endsLine 0 = .ok (.aload_n 0, 1) := by decide +kernel
theorem dX3_endsLine_1 : decode cX3_endsLine 1 = .ok (.getstatic 10, 3) := by decide +kernel
theorem dX3_endsLine_4 : decode cX3_endsLine 4 = .ok (.if_acmp .eq 17, 3) := by decide +kernel
theorem dX3_endsLine_7 : decode cX3_endsLine 7 = .ok (.aload_n 0, 1) := by decide +kernel
theorem dX3_endsLine_8 : decode cX3_endsLine 8 = .ok (.getstatic 13, 3) := by decide +kernel
theorem dX3_endsLine_11 : decode cX3_endsLine 11 = .ok (.if_acmp .eq 10, 3) := by decide +kernel
theorem dX3_endsLine_14 : decode cX3_endsLine 14 = .ok (.aload_n 0, 1) := by decide +kernel
theorem dX3_endsLine_15 : decode cX3_endsLine 15 = .ok (.getstatic 16, 3) := by decide +kernel
theorem dX3_endsLine_18 : decode cX3_endsLine 18 = .ok (.if_acmp .ne 7, 3) := by decide +kernel
theorem dX3_endsLine_21 : decode cX3_endsLine 21 = .ok (.iconst 1, 1) := by decide +kernel
theorem dX3_endsLine_22 : decode cX3_endsLine 22 = .ok (.goto 4, 3) := by decide +kernel
theorem dX3_endsLine_25 : decode cX3_endsLine 25 = .ok (.iconst 0, 1) := by decide +kernel
theorem dX3_endsLine_26 : decode cX3_endsLine 26 = .ok (.ireturn, 1) := by decide +kernel
set_option maxRecDepth 20000 in
theorem ggX4_init_X3_endsLine : GoodIn wsX4_init wsX3_endsLine := goodIn_r _ [19, 20, 21, 22] (by decide +kernel) (by decide +kernel)
set_option maxRecDepth 20000 in
theorem gX4_init_X3_endsLine : GoodIn wsX4_init (wsV RX4 41 RX3 yX3_endsLine wsX3_endsLine) := goodIn_app (goodIn_of _ (by decide +kernel)) ggX4_init_X3_endsLine
set_option maxRecDepth 20000 in
theorem ggX4_init_X4_traitsOfLeaf : GoodIn wsX4_init wsX4_traitsOfLeaf := goodIn_r _ [26, 27, 15, 16, 17, 18, 19, 20, 21, 22] (by decide +kernel) (by decide +kernel)
set_option maxRecDepth 20000 in
theorem gX4_init_X4_traitsOfLeaf : GoodIn wsX4_init (va_wsS RX4 48 yX4_traitsOfLeaf wsX4_traitsOfLeaf) := goodIn_app (goodIn_of _ (by decide +kernel)) ggX4_init_X4_traitsOfLeaf
theorem dX4_init_0 : decode cX4_init 0 = .ok (.aload_n 0, 1) := by decide +kernel
theorem dX4_init_1 : decode cX4_init 1 = .ok (.invokespecial 3, 3) := by decide +kernel
theorem dX4_init_4 : decode cX4_init 4 = .ok (.aload_n 0, 1) := by decide +kernel
theorem dX4_init_5 : decode cX4_init 5 = .ok (.aload_n 1, 1) := by decide +kernel
theorem dX4_init_6 : decode cX4_init 6 = .ok (.putfield 9, 3) := by decide +kernel
theorem dX4_init_9 : decode cX4_init 9 = .ok (.aload_n 0, 1) := by decide +kernel
theorem dX4_init_10 : decode cX4_init 10 = .ok (.iload_n 2, 1) := by decide +kernel
theorem dX4_init_11 : decode cX4_init 11 = .ok (.putfield 15, 3) := by decide +kernel
theorem dX4_init_14 : decode cX4_init 14 = .ok (.aload_n 0, 1) := by decide +kernel
theorem dX4_init_15 : decode cX4_init 15 = .ok (.aconst_null, 1) := by decide +kernel
theorem dX4_init_16 : decode cX4_init 16 = .ok (.putfield 19, 3) := by decide +kernel
theorem dX4_init_19 : decode cX4_init 19 = .ok (.aload_n 0, 1) := by decide +kernel
theorem dX4_init_20 : decode cX4_init 20 = .ok (.aconst_null, 1) := by decide +kernel
theorem dX4_init_21 : decode cX4_init 21 = .ok (.putfield 23, 3) := by decide +kernel
theorem dX4_init_24 : decode cX4_init 24 = .ok (.aload_n 0, 1) := by decide +kernel
theorem dX4_init_25 : decode cX4_init 25 = .ok (.iconst 1, 1) := by decide +kernel
theorem dX4_init_26 : decode cX4_init 26 = .ok (.putfield 26, 3) := by decide +kernel
theorem dX4_init_29 : decode cX4_init 29 = .ok (.aload_n 0, 1) := by decide +kernel
theorem dX4_init_30 : decode cX4_init 30 = .ok (.iload_n 3, 1) := by decide +kernel
theorem dX4_init_31 : decode cX4_init 31 = .ok (.putfield 29, 3) := by decide +kernel
theorem dX4_init_34 : decode cX4_init 34 = .ok (.aload_n 0, 1) := by decide +kernel
theorem dX4_init_35 : decode cX4_init 35 = .ok (.aload_n 1, 1) := by decide +kernel
theorem dX4_init_36 : decode cX4_init 36 = .ok (.getfield 32, 3) := by decide +kernel
theorem dX4_init_39 : decode cX4_init 39 = .ok (.putfield 38, 3) := by decide +kernel
theorem dX4_init_42 : decode cX4_init 42 = .ok (.aload_n 0, 1) := by decide +kernel
theorem dX4_init_43 : decode cX4_init 43 = .ok (.aload_n 1, 1) := by decide +kernel
theorem dX4_init_44 : decode cX4_init 44 = .ok (.invokevirtual 41, 3) := by decide +kernel
theorem dX4_init_47 : decode cX4_init 47 = .ok (.putfield 45, 3) := by decide +kernel
theorem dX4_init_50 : decode cX4_init 50 = .ok (.aload_n 0, 1) := by decide +kernel
theorem dX4_init_51 : decode cX4_init 51 = .ok (.aload_n 1, 1) := by decide +kernel
theorem dX4_init_52 : decode cX4_init 52 = .ok (.iload_n 2, 1) := by decide +kernel
theorem dX4_init_53 : decode cX4_init 53 = .ok (.invokestatic 48, 3) := by decide +kernel
theorem dX4_init_56 : decode cX4_init 56 = .ok (.putfield 52, 3) := by decide +kernel
theorem dX4_init_59 : decode cX4_init 59 = .ok (.aload_n 0, 1) := by decide +kernel
theorem dX4_init_60 : decode cX4_init 60 = .ok (.iconst 1, 1) := by decide +kernel
theorem dX4_init_61 : decode cX4_init 61 = .ok (.putfield 55, 3) := by decide +kernel
theorem dX4_init_64 : decode cX4_init 64 = .ok (.aload_n 0, 1) := by decide +kernel
theorem dX4_init_65 : decode cX4_init 65 = .ok (.iconst 1, 1) := by decide +kernel
theorem dX4_init_66 : decode cX4_init 66 = .ok (.putfield 58, 3) := by decide +kernel
theorem dX4_init_69 : decode cX4_init 69 = .ok (.return_, 1) := by decide +kernel
set_option maxRecDepth 20000 in
theorem ggX4_traitsOfLeaf_X3_endsLine : GoodIn wsX4_traitsOfLeaf wsX3_endsLine := goodIn_r _ [6, 7, 8, 9] (by decide +kernel) (by decide +kernel)
set_option maxRecDepth 20000 in
theorem gX4_traitsOfLeaf_X3_endsLine : GoodIn wsX4_traitsOfLeaf (wsV RX4 41 RX3 yX3_endsLine wsX3_endsLine) := goodIn_app (goodIn_of _ (by decide +kernel)) ggX4_traitsOfLeaf_X3_endsLine
theorem dX4_traitsOfLeaf_0 : decode cX4_traitsOfLeaf 0 = .ok (.aload_n 0, 1) := by decide +kernel
theorem dX4_traitsOfLeaf_1 : decode cX4_traitsOfLeaf 1 = .ok (.getstatic 69, 3) := by decide +kernel
theorem dX4_traitsOfLeaf_4 : decode cX4_traitsOfLeaf 4 = .ok (.if_acmp .ne 14, 3) := by decide +kernel
theorem dX4_traitsOfLeaf_7 : decode cX4_traitsOfLeaf 7 = .ok (.iload_n 1, 1) := by decide +kernel
theorem dX4_traitsOfLeaf_8 : decode cX4_traitsOfLeaf 8 = .ok (.iconst 1, 1) := by decide +kernel
theorem dX4_traitsOfLeaf_9 : decode cX4_traitsOfLeaf 9 = .ok (.if_icmp .le 7, 3) := by decide +kernel
theorem dX4_traitsOfLeaf_12 : decode cX4_traitsOfLeaf 12 = .ok (.iconst 2, 1) := by decide +kernel
theorem dX4_traitsOfLeaf_13 : decode cX4_traitsOfLeaf 13 = .ok (.goto 4, 3) := by decide +kernel
theorem dX4_traitsOfLeaf_16 : decode cX4_traitsOfLeaf 16 = .ok (.iconst 0, 1) := by decide +kernel
theorem dX4_traitsOfLeaf_17 : decode cX4_traitsOfLeaf 17 = .ok (.ireturn, 1) := by decide +kernel
theorem dX4_traitsOfLeaf_18 : decode cX4_traitsOfLeaf 18 = .ok (.aload_n 0, 1) := by decide +kernel
theorem dX4_traitsOfLeaf_19 : decode cX4_traitsOfLeaf 19 = .ok (.invokevirtual 41, 3) := by decide +kernel
theorem dX4_traitsOfLeaf_22 : decode cX4_traitsOfLeaf 22 = .ok (.ifCond .eq 7, 3) := by decide +kernel
theorem dX4_traitsOfLeaf_25 : decode cX4_traitsOfLeaf 25 = .ok (.iconst 0, 1) := by decide +kernel
theorem dX4_traitsOfLeaf_26 : decode cX4_traitsOfLeaf 26 = .ok (.goto 4, 3) := by decide +kernel
theorem dX4_traitsOfLeaf_29 : decode cX4_traitsOfLeaf 29 = .ok (.iconst 1, 1) := by decide +kernel
theorem dX4_traitsOfLeaf_30 : decode cX4_traitsOfLeaf 30 = .ok (.ireturn, 1) := by decide +kernel
set_option maxRecDepth 20000 in
theorem ggX4_take_X4_bit : GoodIn wsX4_take wsX4_bit := goodIn_r _ [7, 1, 8, 9, 10, 11, 12, 13, 14, 15, 16, 17, 18, 19, 20, 21, 22] (by decide +kernel) (by decide +kernel)
set_option maxRecDepth 20000 in
theorem gX4_take_X4_bit : GoodIn wsX4_take (wsV RX4 119 RX4 yX4_bit wsX4_bit) := goodIn_app (goodIn_of _ (by decide +kernel)) ggX4_take_X4_bit
theorem dX4_take_0 : decode cX4_take 0 = .ok (.aload_n 0, 1) := by decide +kernel
theorem dX4_take_1 : decode cX4_take 1 = .ok (.iload_n 1, 1) := by decide +kernel
theorem dX4_take_2 : decode cX4_take 2 = .ok (.putfield 116, 3) := by decide +kernel
theorem dX4_take_5 : decode cX4_take 5 = .ok (.aload_n 0, 1) := by decide +kernel
theorem dX4_take_6 : decode cX4_take 6 = .ok (.aload_n 0, 1) := by decide +kernel
theorem dX4_take_7 : decode cX4_take 7 = .ok (.getfield 81, 3) := by decide +kernel
theorem dX4_take_10 : decode cX4_take 10 = .ok (.aload_n 0, 1) := by decide +kernel
theorem dX4_take_11 : decode cX4_take 11 = .ok (.invokevirtual 119, 3) := by decide +kernel
theorem dX4_take_14 : decode cX4_take 14 = .ok (.lor, 1) := by decide +kernel
theorem dX4_take_15 : decode cX4_take 15 = .ok (.putfield 81, 3) := by decide +kernel
theorem dX4_take_18 : decode cX4_take 18 = .ok (.return_, 1) := by decide +kernel
theorem dX4_bit_0 : decode cX4_bit 0 = .ok (.lconst 1, 1) := by decide +kernel
theorem dX4_bit_1 : decode cX4_bit 1 = .ok (.aload_n 0, 1) := by decide +kernel
theorem dX4_bit_2 : decode cX4_bit 2 = .ok (.getfield 116, 3) := by decide +kernel
theorem dX4_bit_5 : decode cX4_bit 5 = .ok (.lshl, 1) := by decide +kernel
theorem dX4_bit_6 : decode cX4_bit 6 = .ok (.lreturn, 1) := by decide +kernel
theorem dX5_init_0 : decode cX5_init 0 = .ok (.aload_n 0, 1) := by decide +kernel
theorem dX5_init_1 : decode cX5_init 1 = .ok (.invokespecial 3, 3) := by decide +kernel
theorem dX5_init_4 : decode cX5_init 4 = .ok (.aload_n 0, 1) := by decide +kernel
theorem dX5_init_5 : decode cX5_init 5 = .ok (.bipush 31, 2) := by decide +kernel
theorem dX5_init_7 : decode cX5_init 7 = .ok (.newarray .int, 2) := by decide +kernel
theorem dX5_init_9 : decode cX5_init 9 = .ok (.putfield 9, 3) := by decide +kernel
theorem dX5_init_12 : decode cX5_init 12 = .ok (.aload_n 0, 1) := by decide +kernel
theorem dX5_init_13 : decode cX5_init 13 = .ok (.bipush 32, 2) := by decide +kernel
theorem dX5_init_15 : decode cX5_init 15 = .ok (.newarray .int, 2) := by decide +kernel
theorem dX5_init_17 : decode cX5_init 17 = .ok (.putfield 15, 3) := by decide +kernel
theorem dX5_init_20 : decode cX5_init 20 = .ok (.aload_n 0, 1) := by decide +kernel
theorem dX5_init_21 : decode cX5_init 21 = .ok (.bipush 32, 2) := by decide +kernel
theorem dX5_init_23 : decode cX5_init 23 = .ok (.newarray .int, 2) := by decide +kernel
theorem dX5_init_25 : decode cX5_init 25 = .ok (.putfield 18, 3) := by decide +kernel
theorem dX5_init_28 : decode cX5_init 28 = .ok (.aload_n 0, 1) := by decide +kernel
theorem dX5_init_29 : decode cX5_init 29 = .ok (.bipush 32, 2) := by decide +kernel
theorem dX5_init_31 : decode cX5_init 31 = .ok (.newarray .int, 2) := by decide +kernel
theorem dX5_init_33 : decode cX5_init 33 = .ok (.putfield 21, 3) := by decide +kernel
theorem dX5_init_36 : decode cX5_init 36 = .ok (.return_, 1) := by decide +kernel
set_option maxRecDepth 20000 in
theorem ggX6_init_X2_init : GoodIn wsX6_init wsX2_init := goodIn_r _ [15, 16, 2, 3, 17, 18, 19, 20, 21, 47, 48, 49, 50, 51, 52] (by decide +kernel) (by decide +kernel)
set_option maxRecDepth 20000 in
theorem gX6_init_X2_init : GoodIn wsX6_init (wsX2_init) := ggX6_init_X2_init
set_option maxRecDepth 20000 in
theorem ggX6_init_X8_init : GoodIn wsX6_init wsX8_init := goodIn_r _ [24, 25, 2, 3, 26, 17, 27, 28, 29, 30, 31, 32, 33, 34, 35, 36, 37, 38, 39, 40, 53, 54, 55, 56, 57, 58, 59, 60, 61, 62, 63, 64, 65, 66, 67, 68, 69, 70] (by decide +kernel) (by decide +kernel)
set_option maxRecDepth 20000 in
theorem gX6_init_X8_init : GoodIn wsX6_init (wsX8_init) := ggX6_init_X8_init
theorem dX6_init_0 : decode cX6_init 0 = .ok (.aload_n 0, 1) := by decide +kernel
theorem dX6_init_1 : decode cX6_init 1 = .ok (.invokespecial 3, 3) := by decide +kernel
theorem dX6_init_4 : decode cX6_init 4 = .ok (.aload_n 0, 1) := by decide +kernel
theorem dX6_init_5 : decode cX6_init 5 = .ok (.aload_n 1, 1) := by decide +kernel
theorem dX6_init_6 : decode cX6_init 6 = .ok (.putfield 9, 3) := by decide +kernel
theorem dX6_init_9 : decode cX6_init 9 = .ok (.aload_n 0, 1) := by decide +kernel
theorem dX6_init_10 : decode cX6_init 10 = .ok (.new 15, 3) := by decide +kernel
theorem dX6_init_13 : decode cX6_init 13 = .ok (.dup, 1) := by decide +kernel
theorem dX6_init_14 : decode cX6_init 14 = .ok (.invokespecial 17, 3) := by decide +kernel
theorem dX6_init_17 : decode cX6_init 17 = .ok (.putfield 18, 3) := by decide +kernel
theorem dX6_init_20 : decode cX6_init 20 = .ok (.aload_n 0, 1) := by decide +kernel
theorem dX6_init_21 : decode cX6_init 21 = .ok (.new 22, 3) := by decide +kernel
theorem dX6_init_24 : decode cX6_init 24 = .ok (.dup, 1) := by decide +kernel
theorem dX6_init_25 : decode cX6_init 25 = .ok (.aload_n 0, 1) := by decide +kernel
theorem dX6_init_26 : decode cX6_init 26 = .ok (.getfield 18, 3) := by decide +kernel
theorem dX6_init_29 : decode cX6_init 29 = .ok (.invokespecial 24, 3) := by decide +kernel
theorem dX6_init_32 : decode cX6_init 32 = .ok (.putfield 27, 3) := by decide +kernel
theorem dX6_init_35 : decode cX6_init 35 = .ok (.return_, 1) := by decide +kernel
set_option maxRecDepth 20000 in
theorem ggX6_advance_Jx29ce0_ordinal_8abf5 : GoodIn wsX6_advance wsJx29ce0_ordinal_8abf5 := goodIn_r _ [9, 10] (by decide +kernel) (by decide +kernel)
set_option maxRecDepth 20000 in
theorem gX6_advance_Jx29ce0_ordinal_8abf5_u117X3 : GoodIn wsX6_advance (va_wsU RX6 117 RX3 "java/lang/Enum" ⟨"LayoutPress$Kind", "ordinal", "()I"⟩ yJx29ce0_ordinal_8abf5 wsJx29ce0_ordinal_8abf5) := goodIn_app (goodIn_of _ (by decide +kernel)) ggX6_advance_Jx29ce0_ordinal_8abf5
set_option maxRecDepth 20000 in
theorem ggX7_init_J7_fill_53178 : GoodIn wsX7_init wsJ7_fill_53178 := goodIn_r _ [16] (by decide +kernel) (by decide +kernel)
set_option maxRecDepth 20000 in
theorem gX7_init_J7_fill_53178 : GoodIn wsX7_init (va_wsS RX7 24 yJ7_fill_53178 wsJ7_fill_53178) := goodIn_app (goodIn_of _ (by decide +kernel)) ggX7_init_J7_fill_53178
theorem dX7_init_0 : decode cX7_init 0 = .ok (.aload_n 0, 1) := by decide +kernel
theorem dX7_init_1 : decode cX7_init 1 = .ok (.invokespecial 3, 3) := by decide +kernel
theorem dX7_init_4 : decode cX7_init 4 = .ok (.aload_n 0, 1) := by decide +kernel
theorem dX7_init_5 : decode cX7_init 5 = .ok (.bipush 31, 2) := by decide +kernel
theorem dX7_init_7 : decode cX7_init 7 = .ok (.newarray .int, 2) := by decide +kernel
theorem dX7_init_9 : decode cX7_init 9 = .ok (.putfield 9, 3) := by decide +kernel
theorem dX7_init_12 : decode cX7_init 12 = .ok (.aload_n 0, 1) := by decide +kernel
theorem dX7_init_13 : decode cX7_init 13 = .ok (.bipush 31, 2) := by decide +kernel
theorem dX7_init_15 : decode cX7_init 15 = .ok (.newarray .int, 2) := by decide +kernel
theorem dX7_init_17 : decode cX7_init 17 = .ok (.putfield 15, 3) := by decide +kernel
theorem dX7_init_20 : decode cX7_init 20 = .ok (.aload_n 0, 1) := by decide +kernel
theorem dX7_init_21 : decode cX7_init 21 = .ok (.bipush 31, 2) := by decide +kernel
theorem dX7_init_23 : decode cX7_init 23 = .ok (.newarray .int, 2) := by decide +kernel
theorem dX7_init_25 : decode cX7_init 25 = .ok (.putfield 18, 3) := by decide +kernel
theorem dX7_init_28 : decode cX7_init 28 = .ok (.aload_n 0, 1) := by decide +kernel
theorem dX7_init_29 : decode cX7_init 29 = .ok (.bipush 60, 2) := by decide +kernel
theorem dX7_init_31 : decode cX7_init 31 = .ok (.newarray .int, 2) := by decide +kernel
theorem dX7_init_33 : decode cX7_init 33 = .ok (.putfield 21, 3) := by decide +kernel
theorem dX7_init_36 : decode cX7_init 36 = .ok (.aload_n 0, 1) := by decide +kernel
theorem dX7_init_37 : decode cX7_init 37 = .ok (.getfield 21, 3) := by decide +kernel
theorem dX7_init_40 : decode cX7_init 40 = .ok (.iconst (-1), 1) := by decide +kernel
theorem dX7_init_41 : decode cX7_init 41 = .ok (.invokestatic 24, 3) := by decide +kernel
theorem dX7_init_44 : decode cX7_init 44 = .ok (.aload_n 0, 1) := by decide +kernel
theorem dX7_init_45 : decode cX7_init 45 = .ok (.bipush 30, 2) := by decide +kernel
theorem dX7_init_47 : decode cX7_init 47 = .ok (.anewarray 30, 3) := by decide +kernel
theorem dX7_init_50 : decode cX7_init 50 = .ok (.putfield 32, 3) := by decide +kernel
theorem dX7_init_53 : decode cX7_init 53 = .ok (.aload_n 0, 1) := by decide +kernel
theorem dX7_init_54 : decode cX7_init 54 = .ok (.bipush 30, 2) := by decide +kernel
theorem dX7_init_56 : decode cX7_init 56 = .ok (.newarray .int, 2) := by decide +kernel
theorem dX7_init_58 : decode cX7_init 58 = .ok (.putfield 36, 3) := by decide +kernel
theorem dX7_init_61 : decode cX7_init 61 = .ok (.aload_n 0, 1) := by decide +kernel
theorem dX7_init_62 : decode cX7_init 62 = .ok (.bipush 30, 2) := by decide +kernel
theorem dX7_init_64 : decode cX7_init 64 = .ok (.newarray .int, 2) := by decide +kernel
theorem dX7_init_66 : decode cX7_init 66 = .ok (.putfield 39, 3) := by decide +kernel
theorem dX7_init_69 : decode cX7_init 69 = .ok (.return_, 1) := by decide +kernel
theorem dX8_init_0 : decode cX8_init 0 = .ok (.aload_n 0, 1) := by decide +kernel
theorem dX8_init_1 : decode cX8_init 1 = .ok (.invokespecial 3, 3) := by decide +kernel
theorem dX8_init_4 : decode cX8_init 4 = .ok (.aload_n 0, 1) := by decide +kernel
theorem dX8_init_5 : decode cX8_init 5 = .ok (.aload_n 1, 1) := by decide +kernel
theorem dX8_init_6 : decode cX8_init 6 = .ok (.putfield 9, 3) := by decide +kernel
theorem dX8_init_9 : decode cX8_init 9 = .ok (.aload_n 0, 1) := by decide +kernel
theorem dX8_init_10 : decode cX8_init 10 = .ok (.bipush 32, 2) := by decide +kernel
theorem dX8_init_12 : decode cX8_init 12 = .ok (.newarray .int, 2) := by decide +kernel
theorem dX8_init_14 : decode cX8_init 14 = .ok (.putfield 15, 3) := by decide +kernel
theorem dX8_init_17 : decode cX8_init 17 = .ok (.aload_n 0, 1) := by decide +kernel
theorem dX8_init_18 : decode cX8_init 18 = .ok (.bipush 32, 2) := by decide +kernel
theorem dX8_init_20 : decode cX8_init 20 = .ok (.newarray .int, 2) := by decide +kernel
theorem dX8_init_22 : decode cX8_init 22 = .ok (.putfield 19, 3) := by decide +kernel
theorem dX8_init_25 : decode cX8_init 25 = .ok (.aload_n 0, 1) := by decide +kernel
theorem dX8_init_26 : decode cX8_init 26 = .ok (.bipush 32, 2) := by decide +kernel
theorem dX8_init_28 : decode cX8_init 28 = .ok (.newarray .int, 2) := by decide +kernel
theorem dX8_init_30 : decode cX8_init 30 = .ok (.putfield 22, 3) := by decide +kernel
theorem dX8_init_33 : decode cX8_init 33 = .ok (.aload_n 0, 1) := by decide +kernel
theorem dX8_init_34 : decode cX8_init 34 = .ok (.bipush 32, 2) := by decide +kernel
theorem dX8_init_36 : decode cX8_init 36 = .ok (.newarray .int, 2) := by decide +kernel
theorem dX8_init_38 : decode cX8_init 38 = .ok (.putfield 25, 3) := by decide +kernel
theorem dX8_init_41 : decode cX8_init 41 = .ok (.aload_n 0, 1) := by decide +kernel
theorem dX8_init_42 : decode cX8_init 42 = .ok (.bipush 32, 2) := by decide +kernel
theorem dX8_init_44 : decode cX8_init 44 = .ok (.newarray .long, 2) := by decide +kernel
theorem dX8_init_46 : decode cX8_init 46 = .ok (.putfield 28, 3) := by decide +kernel
theorem dX8_init_49 : decode cX8_init 49 = .ok (.aload_n 0, 1) := by decide +kernel
theorem dX8_init_50 : decode cX8_init 50 = .ok (.bipush 32, 2) := by decide +kernel
theorem dX8_init_52 : decode cX8_init 52 = .ok (.newarray .long, 2) := by decide +kernel
theorem dX8_init_54 : decode cX8_init 54 = .ok (.putfield 32, 3) := by decide +kernel
theorem dX8_init_57 : decode cX8_init 57 = .ok (.aload_n 0, 1) := by decide +kernel
theorem dX8_init_58 : decode cX8_init 58 = .ok (.bipush 32, 2) := by decide +kernel
theorem dX8_init_60 : decode cX8_init 60 = .ok (.newarray .int, 2) := by decide +kernel
theorem dX8_init_62 : decode cX8_init 62 = .ok (.putfield 35, 3) := by decide +kernel
theorem dX8_init_65 : decode cX8_init 65 = .ok (.aload_n 0, 1) := by decide +kernel
theorem dX8_init_66 : decode cX8_init 66 = .ok (.bipush 32, 2) := by decide +kernel
theorem dX8_init_68 : decode cX8_init 68 = .ok (.newarray .int, 2) := by decide +kernel
theorem dX8_init_70 : decode cX8_init 70 = .ok (.putfield 38, 3) := by decide +kernel
theorem dX8_init_73 : decode cX8_init 73 = .ok (.aload_n 0, 1) := by decide +kernel
theorem dX8_init_74 : decode cX8_init 74 = .ok (.bipush 32, 2) := by decide +kernel
theorem dX8_init_76 : decode cX8_init 76 = .ok (.newarray .long, 2) := by decide +kernel
theorem dX8_init_78 : decode cX8_init 78 = .ok (.putfield 41, 3) := by decide +kernel
theorem dX8_init_81 : decode cX8_init 81 = .ok (.aload_n 0, 1) := by decide +kernel
theorem dX8_init_82 : decode cX8_init 82 = .ok (.bipush 32, 2) := by decide +kernel
theorem dX8_init_84 : decode cX8_init 84 = .ok (.newarray .int, 2) := by decide +kernel
theorem dX8_init_86 : decode cX8_init 86 = .ok (.putfield 44, 3) := by decide +kernel
theorem dX8_init_89 : decode cX8_init 89 = .ok (.aload_n 0, 1) := by decide +kernel
theorem dX8_init_90 : decode cX8_init 90 = .ok (.bipush 32, 2) := by decide +kernel
theorem dX8_init_92 : decode cX8_init 92 = .ok (.newarray .int, 2) := by decide +kernel
theorem dX8_init_94 : decode cX8_init 94 = .ok (.putfield 47, 3) := by decide +kernel
theorem dX8_init_97 : decode cX8_init 97 = .ok (.aload_n 0, 1) := by decide +kernel
theorem dX8_init_98 : decode cX8_init 98 = .ok (.bipush 32, 2) := by decide +kernel
theorem dX8_init_100 : decode cX8_init 100 = .ok (.newarray .int, 2) := by decide +kernel
theorem dX8_init_102 : decode cX8_init 102 = .ok (.putfield 50, 3) := by decide +kernel
theorem dX8_init_105 : decode cX8_init 105 = .ok (.aload_n 0, 1) := by decide +kernel
theorem dX8_init_106 : decode cX8_init 106 = .ok (.bipush 32, 2) := by decide +kernel
theorem dX8_init_108 : decode cX8_init 108 = .ok (.putfield 53, 3) := by decide +kernel
theorem dX8_init_111 : decode cX8_init 111 = .ok (.return_, 1) := by decide +kernel
theorem dX9_init_0 : decode cX9_init 0 = .ok (.aload_n 0, 1) := by decide +kernel
theorem dX9_init_1 : decode cX9_init 1 = .ok (.invokespecial 3, 3) := by decide +kernel
theorem dX9_init_4 : decode cX9_init 4 = .ok (.aload_n 0, 1) := by decide +kernel
theorem dX9_init_5 : decode cX9_init 5 = .ok (.bipush 20, 2) := by decide +kernel
theorem dX9_init_7 : decode cX9_init 7 = .ok (.newarray .int, 2) := by decide +kernel
theorem dX9_init_9 : decode cX9_init 9 = .ok (.putfield 9, 3) := by decide +kernel
theorem dX9_init_12 : decode cX9_init 12 = .ok (.return_, 1) := by decide +kernel
set_option maxRecDepth 20000 in
theorem ggX10_init_X9_init : GoodIn wsX10_init wsX9_init := goodIn_r _ [29, 30, 2, 3, 31, 32, 112, 113, 114, 115] (by decide +kernel) (by decide +kernel)
set_option maxRecDepth 20000 in
theorem gX10_init_X9_init : GoodIn wsX10_init (wsX9_init) := ggX10_init_X9_init
set_option maxRecDepth 20000 in
theorem ggX10_init_X6_init : GoodIn wsX10_init wsX6_init := goodIn_r _ [35, 36, 2, 3, 37, 38, 39, 40, 41, 42, 43, 44, 45, 46, 47, 48, 49, 31, 50, 51, 52, 53, 54, 55, 56, 57, 58, 59, 60, 61, 62, 63, 64, 65, 66, 67, 68, 69, 70, 71, 72, 116, 117, 118, 119, 120, 121, 149, 150, 151, 152, 153, 154, 155, 156, 157, 158, 159, 160, 161, 162, 163, 164, 165, 166, 167, 168, 169, 170, 171, 172] (by decide +kernel) (by decide +kernel)
set_option maxRecDepth 20000 in
theorem gX10_init_X6_init : GoodIn wsX10_init (wsX6_init) := ggX10_init_X6_init
set_option maxRecDepth 20000 in
theorem ggX10_init_X1_init : GoodIn wsX10_init wsX1_init := goodIn_r _ [75, 76, 2, 3, 77, 78, 24, 25, 79, 80, 81, 82, 83, 31, 84, 85, 86, 87, 88, 89, 90, 91, 92, 93, 94, 95, 122, 123, 124, 125, 126, 127, 128, 134, 135, 136, 137, 138, 139, 140, 141, 142, 143, 144, 145, 146, 147, 148] (by decide +kernel) (by decide +kernel)
set_option maxRecDepth 20000 in
theorem gX10_init_X1_init : GoodIn wsX10_init (wsX1_init) := ggX10_init_X1_init
set_option maxRecDepth 20000 in
theorem ggX10_init_X5_init : GoodIn wsX10_init wsX5_init := goodIn_r _ [98, 99, 2, 3, 31, 100, 101, 102, 103, 129, 130, 131, 132, 133] (by decide +kernel) (by decide +kernel)
set_option maxRecDepth 20000 in
theorem gX10_init_X5_init : GoodIn wsX10_init (wsX5_init) := ggX10_init_X5_init
set_option maxRecDepth 20000 in
theorem ggX10_init_X7_init : GoodIn wsX10_init wsX7_init := goodIn_r _ [82, 83, 2, 3, 31, 84, 85, 86, 87, 88, 89, 90, 91, 92, 93, 94, 95, 134, 135, 136, 137, 138, 139, 140, 141, 142, 143, 144, 145, 146, 147, 148] (by decide +kernel) (by decide +kernel)
set_option maxRecDepth 20000 in
theorem gX10_init_X7_init : GoodIn wsX10_init (wsX7_init) := ggX10_init_X7_init
theorem dX10_init_0 : decode cX10_init 0 = .ok (.aload_n 0, 1) := by decide +kernel
theorem dX10_init_1 : decode cX10_init 1 = .ok (.invokespecial 3, 3) := by decide +kernel
theorem dX10_init_4 : decode cX10_init 4 = .ok (.aload_n 0, 1) := by decide +kernel
theorem dX10_init_5 : decode cX10_init 5 = .ok (.bipush 60, 2) := by decide +kernel
theorem dX10_init_7 : decode cX10_init 7 = .ok (.anewarray 9, 3) := by decide +kernel
theorem dX10_init_10 : decode cX10_init 10 = .ok (.putfield 11, 3) := by decide +kernel
theorem dX10_init_13 : decode cX10_init 13 = .ok (.aload_n 0, 1) := by decide +kernel
theorem dX10_init_14 : decode cX10_init 14 = .ok (.iconst 0, 1) := by decide +kernel
theorem dX10_init_15 : decode cX10_init 15 = .ok (.putfield 15, 3) := by decide +kernel
theorem dX10_init_18 : decode cX10_init 18 = .ok (.aload_n 0, 1) := by decide +kernel
theorem dX10_init_19 : decode cX10_init 19 = .ok (.new 19, 3) := by decide +kernel
theorem dX10_init_22 : decode cX10_init 22 = .ok (.dup, 1) := by decide +kernel
theorem dX10_init_23 : decode cX10_init 23 = .ok (.invokespecial 21, 3) := by decide +kernel
theorem dX10_init_26 : decode cX10_init 26 = .ok (.putfield 22, 3) := by decide +kernel
theorem dX10_init_29 : decode cX10_init 29 = .ok (.aload_n 0, 1) := by decide +kernel
theorem dX10_init_30 : decode cX10_init 30 = .ok (.new 26, 3) := by decide +kernel
theorem dX10_init_33 : decode cX10_init 33 = .ok (.dup, 1) := by decide +kernel
theorem dX10_init_34 : decode cX10_init 34 = .ok (.aload_n 0, 1) := by decide +kernel
theorem dX10_init_35 : decode cX10_init 35 = .ok (.getfield 22, 3) := by decide +kernel
theorem dX10_init_38 : decode cX10_init 38 = .ok (.invokespecial 28, 3) := by decide +kernel
theorem dX10_init_41 : decode cX10_init 41 = .ok (.putfield 31, 3) := by decide +kernel
theorem dX10_init_44 : decode cX10_init 44 = .ok (.aload_n 0, 1) := by decide +kernel
theorem dX10_init_45 : decode cX10_init 45 = .ok (.new 35, 3) := by decide +kernel
theorem dX10_init_48 : decode cX10_init 48 = .ok (.dup, 1) := by decide +kernel
theorem dX10_init_49 : decode cX10_init 49 = .ok (.aload_n 0, 1) := by decide +kernel
theorem dX10_init_50 : decode cX10_init 50 = .ok (.getfield 22, 3) := by decide +kernel
theorem dX10_init_53 : decode cX10_init 53 = .ok (.invokespecial 37, 3) := by decide +kernel
theorem dX10_init_56 : decode cX10_init 56 = .ok (.putfield 38, 3) := by decide +kernel
theorem dX10_init_59 : decode cX10_init 59 = .ok (.aload_n 0, 1) := by decide +kernel
theorem dX10_init_60 : decode cX10_init 60 = .ok (.new 42, 3) := by decide +kernel
theorem dX10_init_63 : decode cX10_init 63 = .ok (.dup, 1) := by decide +kernel
theorem dX10_init_64 : decode cX10_init 64 = .ok (.invokespecial 44, 3) := by decide +kernel
theorem dX10_init_67 : decode cX10_init 67 = .ok (.putfield 45, 3) := by decide +kernel
theorem dX10_init_70 : decode cX10_init 70 = .ok (.aload_n 0, 1) := by decide +kernel
theorem dX10_init_71 : decode cX10_init 71 = .ok (.new 49, 3) := by decide +kernel
theorem dX10_init_74 : decode cX10_init 74 = .ok (.dup, 1) := by decide +kernel
theorem dX10_init_75 : decode cX10_init 75 = .ok (.invokespecial 51, 3) := by decide +kernel
theorem dX10_init_78 : decode cX10_init 78 = .ok (.putfield 52, 3) := by decide +kernel
theorem dX10_init_81 : decode cX10_init 81 = .ok (.return_, 1) := by decide +kernel
set_option maxRecDepth 20000 in
theorem ggX10_text_X10_checkRange : GoodIn wsX10_text wsX10_checkRange := goodIn_ca (goodIn_r _ [8, 9, 10] (by decide +kernel) (by decide +kernel)) (goodIn_sub (fun _ h => List.mem_cons_of_mem _ (List.mem_append_left _ (List.mem_append_right _ h))) (by decide +kernel))
set_option maxRecDepth 20000 in
theorem gX10_text_X10_checkRange : GoodIn wsX10_text (va_wsS RX10 56 yX10_checkRange wsX10_checkRange) := goodIn_app (goodIn_of _ (by decide +kernel)) ggX10_text_X10_checkRange
set_option maxRecDepth 20000 in
theorem ggX10_text_X4_init : GoodIn wsX10_text wsX4_init := goodIn_r _ [13, 14, 15, 16, 17, 18, 19, 20, 21, 22, 23, 24, 25, 26, 27, 28, 29, 30, 31, 32, 33, 34, 35, 36, 37, 3, 38, 39, 58, 59, 60, 61, 62, 63, 64, 65, 66, 67, 68, 69, 70, 71, 72] (by decide +kernel) (by decide +kernel)
set_option maxRecDepth 20000 in
theorem gX10_text_X4_init : GoodIn wsX10_text (wsX4_init) := ggX10_text_X4_init
set_option maxRecDepth 20000 in
theorem ggX10_text_X10_add : GoodIn wsX10_text wsX10_add := goodIn_ca (goodIn_r _ [43, 44, 45, 46, 47, 48, 49, 50, 3, 51, 52, 53, 54, 55, 56, 57, 73, 74, 75, 76, 77, 78, 79, 58, 59, 60, 61, 62, 63, 64, 65, 66, 67, 68, 69, 70, 71, 72] (by decide +kernel) (by decide +kernel)) (goodIn_sub (fun _ h => List.mem_cons_of_mem _ (List.mem_append_right _ h)) (by decide +kernel))
set_option maxRecDepth 20000 in
theorem gX10_text_X10_add : GoodIn wsX10_text (wsV RX10 69 RX10 yX10_add wsX10_add) := goodIn_app (goodIn_of _ (by decide +kernel)) ggX10_text_X10_add
theorem dX10_text_0 : decode cX10_text 0 = .ok (.iload_n 1, 1) := by decide +kernel
theorem dX10_text_1 : decode cX10_text 1 = .ok (.iconst 0, 1) := by decide +kernel
theorem dX10_text_2 : decode cX10_text 2 = .ok (.bipush 25, 2) := by decide +kernel
theorem dX10_text_4 : decode cX10_text 4 = .ok (.invokestatic 56, 3) := by decide +kernel
theorem dX10_text_7 : decode cX10_text 7 = .ok (.iload_n 2, 1) := by decide +kernel
theorem dX10_text_8 : decode cX10_text 8 = .ok (.iconst 1, 1) := by decide +kernel
theorem dX10_text_9 : decode cX10_text 9 = .ok (.bipush 20, 2) := by decide +kernel
theorem dX10_text_11 : decode cX10_text 11 = .ok (.invokestatic 56, 3) := by decide +kernel
theorem dX10_text_14 : decode cX10_text 14 = .ok (.aload_n 0, 1) := by decide +kernel
theorem dX10_text_15 : decode cX10_text 15 = .ok (.new 9, 3) := by decide +kernel
theorem dX10_text_18 : decode cX10_text 18 = .ok (.dup, 1) := by decide +kernel
theorem dX10_text_19 : decode cX10_text 19 = .ok (.getstatic 60, 3) := by decide +kernel
theorem dX10_text_22 : decode cX10_text 22 = .ok (.iload_n 1, 1) := by decide +kernel
theorem dX10_text_23 : decode cX10_text 23 = .ok (.iload_n 2, 1) := by decide +kernel
theorem dX10_text_24 : decode cX10_text 24 = .ok (.invokespecial 66, 3) := by decide +kernel
theorem dX10_text_27 : decode cX10_text 27 = .ok (.invokevirtual 69, 3) := by decide +kernel
theorem dX10_text_30 : decode cX10_text 30 = .ok (.ireturn, 1) := by decide +kernel
set_option maxRecDepth 20000 in
theorem ggX10_remark_X10_checkRange : GoodIn wsX10_remark wsX10_checkRange := goodIn_ca (goodIn_r _ [8, 9, 10] (by decide +kernel) (by decide +kernel)) (goodIn_sub (fun _ h => List.mem_cons_of_mem _ (List.mem_append_left _ (List.mem_append_right _ h))) (by decide +kernel))
set_option maxRecDepth 20000 in
theorem gX10_remark_X10_checkRange : GoodIn wsX10_remark (va_wsS RX10 56 yX10_checkRange wsX10_checkRange) := goodIn_app (goodIn_of _ (by decide +kernel)) ggX10_remark_X10_checkRange
set_option maxRecDepth 20000 in
theorem ggX10_remark_X4_init : GoodIn wsX10_remark wsX4_init := goodIn_r _ [13, 14, 15, 16, 17, 18, 19, 20, 21, 22, 23, 24, 25, 26, 27, 28, 29, 30, 31, 32, 33, 34, 35, 36, 37, 3, 38, 39, 58, 59, 60, 61, 62, 63, 64, 65, 66, 67, 68, 69, 70, 71, 72] (by decide +kernel) (by decide +kernel)
set_option maxRecDepth 20000 in
theorem gX10_remark_X4_init : GoodIn wsX10_remark (wsX4_init) := ggX10_remark_X4_init
set_option maxRecDepth 20000 in
theorem ggX10_remark_X10_add : GoodIn wsX10_remark wsX10_add := goodIn_ca (goodIn_r _ [43, 44, 45, 46, 47, 48, 49, 50, 3, 51, 52, 53, 54, 55, 56, 57, 73, 74, 75, 76, 77, 78, 79, 58, 59, 60, 61, 62, 63, 64, 65, 66, 67, 68, 69, 70, 71, 72] (by decide +kernel) (by decide +kernel)) (goodIn_sub (fun _ h => List.mem_cons_of_mem _ (List.mem_append_right _ h)) (by decide +kernel))
set_option maxRecDepth 20000 in
theorem gX10_remark_X10_add : GoodIn wsX10_remark (wsV RX10 69 RX10 yX10_add wsX10_add) := goodIn_app (goodIn_of _ (by decide +kernel)) ggX10_remark_X10_add
theorem dX10_remark_0 : decode cX10_remark 0 = .ok (.iload_n 1, 1) := by decide +kernel
theorem dX10_remark_1 : decode cX10_remark 1 = .ok (.iconst 0, 1) := by decide +kernel
theorem dX10_remark_2 : decode cX10_remark 2 = .ok (.bipush 25, 2) := by decide +kernel
theorem dX10_remark_4 : decode cX10_remark 4 = .ok (.invokestatic 56, 3) := by decide +kernel
theorem dX10_remark_7 : decode cX10_remark 7 = .ok (.iload_n 2, 1) := by decide +kernel
theorem dX10_remark_8 : decode cX10_remark 8 = .ok (.iconst 1, 1) := by decide +kernel
theorem dX10_remark_9 : decode cX10_remark 9 = .ok (.bipush 20, 2) := by decide +kernel
theorem dX10_remark_11 : decode cX10_remark 11 = .ok (.invokestatic 56, 3) := by decide +kernel
theorem dX10_remark_14 : decode cX10_remark 14 = .ok (.aload_n 0, 1) := by decide +kernel
theorem dX10_remark_15 : decode cX10_remark 15 = .ok (.new 9, 3) := by decide +kernel
theorem dX10_remark_18 : decode cX10_remark 18 = .ok (.dup, 1) := by decide +kernel
theorem dX10_remark_19 : decode cX10_remark 19 = .ok (.getstatic 73, 3) := by decide +kernel
theorem dX10_remark_22 : decode cX10_remark 22 = .ok (.iload_n 1, 1) := by decide +kernel
theorem dX10_remark_23 : decode cX10_remark 23 = .ok (.iload_n 2, 1) := by decide +kernel
theorem dX10_remark_24 : decode cX10_remark 24 = .ok (.invokespecial 66, 3) := by decide +kernel
theorem dX10_remark_27 : decode cX10_remark 27 = .ok (.invokevirtual 69, 3) := by decide +kernel
theorem dX10_remark_30 : decode cX10_remark 30 = .ok (.ireturn, 1) := by decide +kernel
set_option maxRecDepth 20000 in
theorem ggX10_line_X4_init : GoodIn wsX10_line wsX4_init := goodIn_r _ [7, 8, 9, 10, 11, 12, 13, 14, 15, 16, 17, 18, 19, 20, 21, 22, 23, 24, 25, 26, 27, 28, 29, 30, 31, 3, 32, 33, 53, 54, 55, 56, 57, 58, 59, 60, 61, 62, 63, 64, 65, 66, 67] (by decide +kernel) (by decide +kernel)
set_option maxRecDepth 20000 in
theorem gX10_line_X4_init : GoodIn wsX10_line (wsX4_init) := ggX10_line_X4_init
set_option maxRecDepth 20000 in
theorem ggX10_line_X10_add : GoodIn wsX10_line wsX10_add := goodIn_ca (goodIn_r _ [38, 39, 40, 41, 42, 43, 44, 45, 3, 46, 47, 48, 49, 50, 51, 52, 68, 69, 70, 71, 72, 73, 74, 53, 54, 55, 56, 57, 58, 59, 60, 61, 62, 63, 64, 65, 66, 67] (by decide +kernel) (by decide +kernel)) (goodIn_sub (fun _ h => List.mem_cons_of_mem _ (List.mem_append_right _ h)) (by decide +kernel))
set_option maxRecDepth 20000 in
theorem gX10_line_X10_add : GoodIn wsX10_line (wsV RX10 69 RX10 yX10_add wsX10_add) := goodIn_app (goodIn_of _ (by decide +kernel)) ggX10_line_X10_add
theorem dX10_line_0 : decode cX10_line 0 = .ok (.aload_n 0, 1) := by decide +kernel
theorem dX10_line_1 : decode cX10_line 1 = .ok (.new 9, 3) := by decide +kernel
theorem dX10_line_4 : decode cX10_line 4 = .ok (.dup, 1) := by decide +kernel
theorem dX10_line_5 : decode cX10_line 5 = .ok (.getstatic 76, 3) := by decide +kernel
theorem dX10_line_8 : decode cX10_line 8 = .ok (.iconst 0, 1) := by decide +kernel
theorem dX10_line_9 : decode cX10_line 9 = .ok (.iconst 1, 1) := by decide +kernel
theorem dX10_line_10 : decode cX10_line 10 = .ok (.invokespecial 66, 3) := by decide +kernel
theorem dX10_line_13 : decode cX10_line 13 = .ok (.invokevirtual 69, 3) := by decide +kernel
theorem dX10_line_16 : decode cX10_line 16 = .ok (.ireturn, 1) := by decide +kernel
set_option maxRecDepth 20000 in
theorem ggX10_soft_X4_init : GoodIn wsX10_soft wsX4_init := goodIn_r _ [7, 8, 9, 10, 11, 12, 13, 14, 15, 16, 17, 18, 19, 20, 21, 22, 23, 24, 25, 26, 27, 28, 29, 30, 31, 3, 32, 33, 53, 54, 55, 56, 57, 58, 59, 60, 61, 62, 63, 64, 65, 66, 67] (by decide +kernel) (by decide +kernel)
set_option maxRecDepth 20000 in
theorem gX10_soft_X4_init : GoodIn wsX10_soft (wsX4_init) := ggX10_soft_X4_init
set_option maxRecDepth 20000 in
theorem ggX10_soft_X10_add : GoodIn wsX10_soft wsX10_add := goodIn_ca (goodIn_r _ [38, 39, 40, 41, 42, 43, 44, 45, 3, 46, 47, 48, 49, 50, 51, 52, 68, 69, 70, 71, 72, 73, 74, 53, 54, 55, 56, 57, 58, 59, 60, 61, 62, 63, 64, 65, 66, 67] (by decide +kernel) (by decide +kernel)) (goodIn_sub (fun _ h => List.mem_cons_of_mem _ (List.mem_append_right _ h)) (by decide +kernel))
set_option maxRecDepth 20000 in
theorem gX10_soft_X10_add : GoodIn wsX10_soft (wsV RX10 69 RX10 yX10_add wsX10_add) := goodIn_app (goodIn_of _ (by decide +kernel)) ggX10_soft_X10_add
theorem dX10_soft_0 : decode cX10_soft 0 = .ok (.aload_n 0, 1) := by decide +kernel
theorem dX10_soft_1 : decode cX10_soft 1 = .ok (.new 9, 3) := by decide +kernel
theorem dX10_soft_4 : decode cX10_soft 4 = .ok (.dup, 1) := by decide +kernel
theorem dX10_soft_5 : decode cX10_soft 5 = .ok (.getstatic 79, 3) := by decide +kernel
theorem dX10_soft_8 : decode cX10_soft 8 = .ok (.iconst 0, 1) := by decide +kernel
theorem dX10_soft_9 : decode cX10_soft 9 = .ok (.iconst 0, 1) := by decide +kernel
theorem dX10_soft_10 : decode cX10_soft 10 = .ok (.invokespecial 66, 3) := by decide +kernel
theorem dX10_soft_13 : decode cX10_soft 13 = .ok (.invokevirtual 69, 3) := by decide +kernel
theorem dX10_soft_16 : decode cX10_soft 16 = .ok (.ireturn, 1) := by decide +kernel
set_option maxRecDepth 20000 in
theorem ggX10_hard_X4_init : GoodIn wsX10_hard wsX4_init := goodIn_r _ [7, 8, 9, 10, 11, 12, 13, 14, 15, 16, 17, 18, 19, 20, 21, 22, 23, 24, 25, 26, 27, 28, 29, 30, 31, 3, 32, 33, 53, 54, 55, 56, 57, 58, 59, 60, 61, 62, 63, 64, 65, 66, 67] (by decide +kernel) (by decide +kernel)
set_option maxRecDepth 20000 in
theorem gX10_hard_X4_init : GoodIn wsX10_hard (wsX4_init) := ggX10_hard_X4_init
set_option maxRecDepth 20000 in
theorem ggX10_hard_X10_add : GoodIn wsX10_hard wsX10_add := goodIn_ca (goodIn_r _ [38, 39, 40, 41, 42, 43, 44, 45, 3, 46, 47, 48, 49, 50, 51, 52, 68, 69, 70, 71, 72, 73, 74, 53, 54, 55, 56, 57, 58, 59, 60, 61, 62, 63, 64, 65, 66, 67] (by decide +kernel) (by decide +kernel)) (goodIn_sub (fun _ h => List.mem_cons_of_mem _ (List.mem_append_right _ h)) (by decide +kernel))
set_option maxRecDepth 20000 in
theorem gX10_hard_X10_add : GoodIn wsX10_hard (wsV RX10 69 RX10 yX10_add wsX10_add) := goodIn_app (goodIn_of _ (by decide +kernel)) ggX10_hard_X10_add
theorem dX10_hard_0 : decode cX10_hard 0 = .ok (.aload_n 0, 1) := by decide +kernel
theorem dX10_hard_1 : decode cX10_hard 1 = .ok (.new 9, 3) := by decide +kernel
theorem dX10_hard_4 : decode cX10_hard 4 = .ok (.dup, 1) := by decide +kernel
theorem dX10_hard_5 : decode cX10_hard 5 = .ok (.getstatic 82, 3) := by decide +kernel
theorem dX10_hard_8 : decode cX10_hard 8 = .ok (.iconst 0, 1) := by decide +kernel
theorem dX10_hard_9 : decode cX10_hard 9 = .ok (.iconst 0, 1) := by decide +kernel
theorem dX10_hard_10 : decode cX10_hard 10 = .ok (.invokespecial 66, 3) := by decide +kernel
theorem dX10_hard_13 : decode cX10_hard 13 = .ok (.invokevirtual 69, 3) := by decide +kernel
theorem dX10_hard_16 : decode cX10_hard 16 = .ok (.ireturn, 1) := by decide +kernel
set_option maxRecDepth 20000 in
theorem ggX10_tab_X10_checkRange : GoodIn wsX10_tab wsX10_checkRange := goodIn_ca (goodIn_r _ [8, 9, 10] (by decide +kernel) (by decide +kernel)) (goodIn_sub (fun _ h => List.mem_cons_of_mem _ (List.mem_append_left _ (List.mem_append_right _ h))) (by decide +kernel))
set_option maxRecDepth 20000 in
theorem gX10_tab_X10_checkRange : GoodIn wsX10_tab (va_wsS RX10 56 yX10_checkRange wsX10_checkRange) := goodIn_app (goodIn_of _ (by decide +kernel)) ggX10_tab_X10_checkRange
set_option maxRecDepth 20000 in
theorem ggX10_tab_X4_init : GoodIn wsX10_tab wsX4_init := goodIn_r _ [13, 14, 15, 16, 17, 18, 19, 20, 21, 22, 23, 24, 25, 26, 27, 28, 29, 30, 31, 32, 33, 34, 35, 36, 37, 3, 38, 39, 58, 59, 60, 61, 62, 63, 64, 65, 66, 67, 68, 69, 70, 71, 72] (by decide +kernel) (by decide +kernel)
set_option maxRecDepth 20000 in
theorem gX10_tab_X4_init : GoodIn wsX10_tab (wsX4_init) := ggX10_tab_X4_init
set_option maxRecDepth 20000 in
theorem ggX10_tab_X10_add : GoodIn wsX10_tab wsX10_add := goodIn_ca (goodIn_r _ [43, 44, 45, 46, 47, 48, 49, 50, 3, 51, 52, 53, 54, 55, 56, 57, 73, 74, 75, 76, 77, 78, 79, 58, 59, 60, 61, 62, 63, 64, 65, 66, 67, 68, 69, 70, 71, 72] (by decide +kernel) (by decide +kernel)) (goodIn_sub (fun _ h => List.mem_cons_of_mem _ (List.mem_append_right _ h)) (by decide +kernel))
set_option maxRecDepth 20000 in
theorem gX10_tab_X10_add : GoodIn wsX10_tab (wsV RX10 69 RX10 yX10_add wsX10_add) := goodIn_app (goodIn_of _ (by decide +kernel)) ggX10_tab_X10_add
theorem dX10_tab_0 : decode cX10_tab 0 = .ok (.iload_n 1, 1) := by decide +kernel
theorem dX10_tab_1 : decode cX10_tab 1 = .ok (.iconst 0, 1) := by decide +kernel
theorem dX10_tab_2 : decode cX10_tab 2 = .ok (.bipush 80, 2) := by decide +kernel
theorem dX10_tab_4 : decode cX10_tab 4 = .ok (.invokestatic 56, 3) := by decide +kernel
theorem dX10_tab_7 : decode cX10_tab 7 = .ok (.aload_n 0, 1) := by decide +kernel
theorem dX10_tab_8 : decode cX10_tab 8 = .ok (.new 9, 3) := by decide +kernel
theorem dX10_tab_11 : decode cX10_tab 11 = .ok (.dup, 1) := by decide +kernel
theorem dX10_tab_12 : decode cX10_tab 12 = .ok (.getstatic 85, 3) := by decide +kernel
theorem dX10_tab_15 : decode cX10_tab 15 = .ok (.iload_n 1, 1) := by decide +kernel
theorem dX10_tab_16 : decode cX10_tab 16 = .ok (.iconst 0, 1) := by decide +kernel
theorem dX10_tab_17 : decode cX10_tab 17 = .ok (.invokespecial 66, 3) := by decide +kernel
theorem dX10_tab_20 : decode cX10_tab 20 = .ok (.invokevirtual 69, 3) := by decide +kernel
theorem dX10_tab_23 : decode cX10_tab 23 = .ok (.ireturn, 1) := by decide +kernel
set_option maxRecDepth 20000 in
theorem ggX10_pair_X10_nodeOf : GoodIn wsX10_pair wsX10_nodeOf := goodIn_ca (goodIn_r _ [9, 10, 11, 12, 13, 88, 89, 90, 91, 92, 93, 94] (by decide +kernel) (by decide +kernel)) (goodIn_sub (fun _ h => List.mem_cons_of_mem _ (List.mem_append_left _ (List.mem_append_right _ h))) (by decide +kernel))
set_option maxRecDepth 20000 in
theorem gX10_pair_X10_nodeOf : GoodIn wsX10_pair (wsV RX10 91 RX10 yX10_nodeOf wsX10_nodeOf) := goodIn_app (goodIn_of _ (by decide +kernel)) ggX10_pair_X10_nodeOf
set_option maxRecDepth 20000 in
theorem ggX10_pair_X10_add : GoodIn wsX10_pair wsX10_add := goodIn_ca (goodIn_r _ [61, 62, 63, 12, 13, 64, 65, 66, 3, 67, 68, 29, 69, 70, 71, 72, 88, 89, 90, 91, 92, 93, 94, 73, 74, 75, 76, 77, 78, 79, 80, 81, 82, 83, 84, 85, 86, 87] (by decide +kernel) (by decide +kernel)) (goodIn_sub (fun _ h => List.mem_cons_of_mem _ (List.mem_append_right _ h)) (by decide +kernel))
set_option maxRecDepth 20000 in
theorem gX10_pair_X10_add : GoodIn wsX10_pair (wsV RX10 69 RX10 yX10_add wsX10_add) := goodIn_app (goodIn_of _ (by decide +kernel)) ggX10_pair_X10_add
theorem dX10_pair_0 : decode cX10_pair 0 = .ok (.aload_n 0, 1) := by decide +kernel
theorem dX10_pair_1 : decode cX10_pair 1 = .ok (.new 9, 3) := by decide +kernel
theorem dX10_pair_4 : decode cX10_pair 4 = .ok (.dup, 1) := by decide +kernel
theorem dX10_pair_5 : decode cX10_pair 5 = .ok (.getstatic 88, 3) := by decide +kernel
theorem dX10_pair_8 : decode cX10_pair 8 = .ok (.iconst 0, 1) := by decide +kernel
theorem dX10_pair_9 : decode cX10_pair 9 = .ok (.aload_n 0, 1) := by decide +kernel
theorem dX10_pair_10 : decode cX10_pair 10 = .ok (.iload_n 1, 1) := by decide +kernel
theorem dX10_pair_11 : decode cX10_pair 11 = .ok (.invokevirtual 91, 3) := by decide +kernel
theorem dX10_pair_14 : decode cX10_pair 14 = .ok (.aload_n 0, 1) := by decide +kernel
theorem dX10_pair_15 : decode cX10_pair 15 = .ok (.iload_n 2, 1) := by decide +kernel
theorem dX10_pair_16 : decode cX10_pair 16 = .ok (.invokevirtual 91, 3) := by decide +kernel
theorem dX10_pair_19 : decode cX10_pair 19 = .ok (.invokespecial 95, 3) := by decide +kernel
theorem dX10_pair_22 : decode cX10_pair 22 = .ok (.invokevirtual 69, 3) := by decide +kernel
theorem dX10_pair_25 : decode cX10_pair 25 = .ok (.ireturn, 1) := by decide +kernel
set_option maxRecDepth 20000 in
theorem ggX10_nest_X10_nodeOf : GoodIn wsX10_nest wsX10_nodeOf := goodIn_ca (goodIn_r _ [9, 10, 11, 12, 13, 93, 94, 95, 96, 97, 98, 99] (by decide +kernel) (by decide +kernel)) (goodIn_sub (fun _ h => List.mem_cons_of_mem _ (List.mem_append_left _ (List.mem_append_left _ (List.mem_append_right _ h)))) (by decide +kernel))
set_option maxRecDepth 20000 in
theorem gX10_nest_X10_nodeOf : GoodIn wsX10_nest (wsV RX10 91 RX10 yX10_nodeOf wsX10_nodeOf) := goodIn_app (goodIn_of _ (by decide +kernel)) ggX10_nest_X10_nodeOf
set_option maxRecDepth 20000 in
theorem ggX10_nest_X10_checkRange : GoodIn wsX10_nest wsX10_checkRange := goodIn_ca (goodIn_r _ [16, 17, 18] (by decide +kernel) (by decide +kernel)) (goodIn_sub (fun _ h => List.mem_cons_of_mem _ (List.mem_append_left _ (List.mem_append_right _ h))) (by decide +kernel))
set_option maxRecDepth 20000 in
theorem gX10_nest_X10_checkRange : GoodIn wsX10_nest (va_wsS RX10 56 yX10_checkRange wsX10_checkRange) := goodIn_app (goodIn_of _ (by decide +kernel)) ggX10_nest_X10_checkRange
set_option maxRecDepth 20000 in
theorem ggX10_nest_X10_add : GoodIn wsX10_nest wsX10_add := goodIn_ca (goodIn_r _ [66, 67, 68, 12, 13, 69, 70, 71, 3, 72, 73, 34, 74, 75, 76, 77, 93, 94, 95, 96, 97, 98, 99, 78, 79, 80, 81, 82, 83, 84, 85, 86, 87, 88, 89, 90, 91, 92] (by decide +kernel) (by decide +kernel)) (goodIn_sub (fun _ h => List.mem_cons_of_mem _ (List.mem_append_right _ h)) (by decide +kernel))
set_option maxRecDepth 20000 in
theorem gX10_nest_X10_add : GoodIn wsX10_nest (wsV RX10 69 RX10 yX10_add wsX10_add) := goodIn_app (goodIn_of _ (by decide +kernel)) ggX10_nest_X10_add
theorem dX10_nest_0 : decode cX10_nest 0 = .ok (.aload_n 0, 1) := by decide +kernel
theorem dX10_nest_1 : decode cX10_nest 1 = .ok (.iload_n 2, 1) := by decide +kernel
theorem dX10_nest_2 : decode cX10_nest 2 = .ok (.invokevirtual 91, 3) := by decide +kernel
theorem dX10_nest_5 : decode cX10_nest 5 = .ok (.astore_n 3, 1) := by decide +kernel
theorem dX10_nest_6 : decode cX10_nest 6 = .ok (.iload_n 1, 1) := by decide +kernel
theorem dX10_nest_7 : decode cX10_nest 7 = .ok (.bipush (-20), 2) := by decide +kernel
theorem dX10_nest_9 : decode cX10_nest 9 = .ok (.bipush 20, 2) := by decide +kernel
theorem dX10_nest_11 : decode cX10_nest 11 = .ok (.invokestatic 56, 3) := by decide +kernel
theorem dX10_nest_14 : decode cX10_nest 14 = .ok (.aload_n 0, 1) := by decide +kernel
theorem dX10_nest_15 : decode cX10_nest 15 = .ok (.new 9, 3) := by decide +kernel
theorem dX10_nest_18 : decode cX10_nest 18 = .ok (.dup, 1) := by decide +kernel
theorem dX10_nest_19 : decode cX10_nest 19 = .ok (.getstatic 98, 3) := by decide +kernel
theorem dX10_nest_22 : decode cX10_nest 22 = .ok (.iload_n 1, 1) := by decide +kernel
theorem dX10_nest_23 : decode cX10_nest 23 = .ok (.aload_n 3, 1) := by decide +kernel
theorem dX10_nest_24 : decode cX10_nest 24 = .ok (.aconst_null, 1) := by decide +kernel
theorem dX10_nest_25 : decode cX10_nest 25 = .ok (.invokespecial 95, 3) := by decide +kernel
theorem dX10_nest_28 : decode cX10_nest 28 = .ok (.invokevirtual 69, 3) := by decide +kernel
theorem dX10_nest_31 : decode cX10_nest 31 = .ok (.ireturn, 1) := by decide +kernel
set_option maxRecDepth 20000 in
theorem ggX10_align_X10_nodeOf : GoodIn wsX10_align wsX10_nodeOf := goodIn_ca (goodIn_r _ [9, 10, 11, 12, 13, 88, 89, 90, 91, 92, 93, 94] (by decide +kernel) (by decide +kernel)) (goodIn_sub (fun _ h => List.mem_cons_of_mem _ (List.mem_append_left _ (List.mem_append_right _ h))) (by decide +kernel))
set_option maxRecDepth 20000 in
theorem gX10_align_X10_nodeOf : GoodIn wsX10_align (wsV RX10 91 RX10 yX10_nodeOf wsX10_nodeOf) := goodIn_app (goodIn_of _ (by decide +kernel)) ggX10_align_X10_nodeOf
set_option maxRecDepth 20000 in
theorem ggX10_align_X10_add : GoodIn wsX10_align wsX10_add := goodIn_ca (goodIn_r _ [61, 62, 63, 12, 13, 64, 65, 66, 3, 67, 68, 29, 69, 70, 71, 72, 88, 89, 90, 91, 92, 93, 94, 73, 74, 75, 76, 77, 78, 79, 80, 81, 82, 83, 84, 85, 86, 87] (by decide +kernel) (by decide +kernel)) (goodIn_sub (fun _ h => List.mem_cons_of_mem _ (List.mem_append_right _ h)) (by decide +kernel))
set_option maxRecDepth 20000 in
theorem gX10_align_X10_add : GoodIn wsX10_align (wsV RX10 69 RX10 yX10_add wsX10_add) := goodIn_app (goodIn_of _ (by decide +kernel)) ggX10_align_X10_add
theorem dX10_align_0 : decode cX10_align 0 = .ok (.aload_n 0, 1) := by decide +kernel
theorem dX10_align_1 : decode cX10_align 1 = .ok (.new 9, 3) := by decide +kernel
theorem dX10_align_4 : decode cX10_align 4 = .ok (.dup, 1) := by decide +kernel
theorem dX10_align_5 : decode cX10_align 5 = .ok (.getstatic 101, 3) := by decide +kernel
theorem dX10_align_8 : decode cX10_align 8 = .ok (.iconst 0, 1) := by decide +kernel
theorem dX10_align_9 : decode cX10_align 9 = .ok (.aload_n 0, 1) := by decide +kernel
theorem dX10_align_10 : decode cX10_align 10 = .ok (.iload_n 1, 1) := by decide +kernel
theorem dX10_align_11 : decode cX10_align 11 = .ok (.invokevirtual 91, 3) := by decide +kernel
theorem dX10_align_14 : decode cX10_align 14 = .ok (.aconst_null, 1) := by decide +kernel
theorem dX10_align_15 : decode cX10_align 15 = .ok (.invokespecial 95, 3) := by decide +kernel
theorem dX10_align_18 : decode cX10_align 18 = .ok (.invokevirtual 69, 3) := by decide +kernel
theorem dX10_align_21 : decode cX10_align 21 = .ok (.ireturn, 1) := by decide +kernel
set_option maxRecDepth 20000 in
theorem ggX10_group_X10_nodeOf : GoodIn wsX10_group wsX10_nodeOf := goodIn_ca (goodIn_r _ [9, 10, 11, 12, 13, 88, 89, 90, 91, 92, 93, 94] (by decide +kernel) (by decide +kernel)) (goodIn_sub (fun _ h => List.mem_cons_of_mem _ (List.mem_append_left _ (List.mem_append_right _ h))) (by decide +kernel))
set_option maxRecDepth 20000 in
theorem gX10_group_X10_nodeOf : GoodIn wsX10_group (wsV RX10 91 RX10 yX10_nodeOf wsX10_nodeOf) := goodIn_app (goodIn_of _ (by decide +kernel)) ggX10_group_X10_nodeOf
set_option maxRecDepth 20000 in
theorem ggX10_group_X10_add : GoodIn wsX10_group wsX10_add := goodIn_ca (goodIn_r _ [61, 62, 63, 12, 13, 64, 65, 66, 3, 67, 68, 29, 69, 70, 71, 72, 88, 89, 90, 91, 92, 93, 94, 73, 74, 75, 76, 77, 78, 79, 80, 81, 82, 83, 84, 85, 86, 87] (by decide +kernel) (by decide +kernel)) (goodIn_sub (fun _ h => List.mem_cons_of_mem _ (List.mem_append_right _ h)) (by decide +kernel))
set_option maxRecDepth 20000 in
theorem gX10_group_X10_add : GoodIn wsX10_group (wsV RX10 69 RX10 yX10_add wsX10_add) := goodIn_app (goodIn_of _ (by decide +kernel)) ggX10_group_X10_add
theorem dX10_group_0 : decode cX10_group 0 = .ok (.aload_n 0, 1) := by decide +kernel
theorem dX10_group_1 : decode cX10_group 1 = .ok (.new 9, 3) := by decide +kernel
theorem dX10_group_4 : decode cX10_group 4 = .ok (.dup, 1) := by decide +kernel
theorem dX10_group_5 : decode cX10_group 5 = .ok (.getstatic 104, 3) := by decide +kernel
theorem dX10_group_8 : decode cX10_group 8 = .ok (.iconst 0, 1) := by decide +kernel
theorem dX10_group_9 : decode cX10_group 9 = .ok (.aload_n 0, 1) := by decide +kernel
theorem dX10_group_10 : decode cX10_group 10 = .ok (.iload_n 1, 1) := by decide +kernel
theorem dX10_group_11 : decode cX10_group 11 = .ok (.invokevirtual 91, 3) := by decide +kernel
theorem dX10_group_14 : decode cX10_group 14 = .ok (.aconst_null, 1) := by decide +kernel
theorem dX10_group_15 : decode cX10_group 15 = .ok (.invokespecial 95, 3) := by decide +kernel
theorem dX10_group_18 : decode cX10_group 18 = .ok (.invokevirtual 69, 3) := by decide +kernel
theorem dX10_group_21 : decode cX10_group 21 = .ok (.ireturn, 1) := by decide +kernel
set_option maxRecDepth 20000 in
theorem ggX10_choice_X10_nodeOf : GoodIn wsX10_choice wsX10_nodeOf := goodIn_ca (goodIn_r _ [9, 10, 11, 12, 13, 88, 89, 90, 91, 92, 93, 94] (by decide +kernel) (by decide +kernel)) (goodIn_sub (fun _ h => List.mem_cons_of_mem _ (List.mem_append_left _ (List.mem_append_right _ h))) (by decide +kernel))
set_option maxRecDepth 20000 in
theorem gX10_choice_X10_nodeOf : GoodIn wsX10_choice (wsV RX10 91 RX10 yX10_nodeOf wsX10_nodeOf) := goodIn_app (goodIn_of _ (by decide +kernel)) ggX10_choice_X10_nodeOf
set_option maxRecDepth 20000 in
theorem ggX10_choice_X10_add : GoodIn wsX10_choice wsX10_add := goodIn_ca (goodIn_r _ [61, 62, 63, 12, 13, 64, 65, 66, 3, 67, 68, 29, 69, 70, 71, 72, 88, 89, 90, 91, 92, 93, 94, 73, 74, 75, 76, 77, 78, 79, 80, 81, 82, 83, 84, 85, 86, 87] (by decide +kernel) (by decide +kernel)) (goodIn_sub (fun _ h => List.mem_cons_of_mem _ (List.mem_append_right _ h)) (by decide +kernel))
set_option maxRecDepth 20000 in
theorem gX10_choice_X10_add : GoodIn wsX10_choice (wsV RX10 69 RX10 yX10_add wsX10_add) := goodIn_app (goodIn_of _ (by decide +kernel)) ggX10_choice_X10_add
theorem dX10_choice_0 : decode cX10_choice 0 = .ok (.aload_n 0, 1) := by decide +kernel
theorem dX10_choice_1 : decode cX10_choice 1 = .ok (.new 9, 3) := by decide +kernel
theorem dX10_choice_4 : decode cX10_choice 4 = .ok (.dup, 1) := by decide +kernel
theorem dX10_choice_5 : decode cX10_choice 5 = .ok (.getstatic 107, 3) := by decide +kernel
theorem dX10_choice_8 : decode cX10_choice 8 = .ok (.iconst 0, 1) := by decide +kernel
theorem dX10_choice_9 : decode cX10_choice 9 = .ok (.aload_n 0, 1) := by decide +kernel
theorem dX10_choice_10 : decode cX10_choice 10 = .ok (.iload_n 1, 1) := by decide +kernel
theorem dX10_choice_11 : decode cX10_choice 11 = .ok (.invokevirtual 91, 3) := by decide +kernel
theorem dX10_choice_14 : decode cX10_choice 14 = .ok (.aload_n 0, 1) := by decide +kernel
theorem dX10_choice_15 : decode cX10_choice 15 = .ok (.iload_n 2, 1) := by decide +kernel
theorem dX10_choice_16 : decode cX10_choice 16 = .ok (.invokevirtual 91, 3) := by decide +kernel
theorem dX10_choice_19 : decode cX10_choice 19 = .ok (.invokespecial 95, 3) := by decide +kernel
theorem dX10_choice_22 : decode cX10_choice 22 = .ok (.invokevirtual 69, 3) := by decide +kernel
theorem dX10_choice_25 : decode cX10_choice 25 = .ok (.ireturn, 1) := by decide +kernel
set_option maxRecDepth 20000 in
theorem ggX10_flat_X10_nodeOf : GoodIn wsX10_flat wsX10_nodeOf := goodIn_ca (goodIn_r _ [9, 10, 11, 12, 13, 88, 89, 90, 91, 92, 93, 94] (by decide +kernel) (by decide +kernel)) (goodIn_sub (fun _ h => List.mem_cons_of_mem _ (List.mem_append_left _ (List.mem_append_right _ h))) (by decide +kernel))
set_option maxRecDepth 20000 in
theorem gX10_flat_X10_nodeOf : GoodIn wsX10_flat (wsV RX10 91 RX10 yX10_nodeOf wsX10_nodeOf) := goodIn_app (goodIn_of _ (by decide +kernel)) ggX10_flat_X10_nodeOf
set_option maxRecDepth 20000 in
theorem ggX10_flat_X10_add : GoodIn wsX10_flat wsX10_add := goodIn_ca (goodIn_r _ [61, 62, 63, 12, 13, 64, 65, 66, 3, 67, 68, 29, 69, 70, 71, 72, 88, 89, 90, 91, 92, 93, 94, 73, 74, 75, 76, 77, 78, 79, 80, 81, 82, 83, 84, 85, 86, 87] (by decide +kernel) (by decide +kernel)) (goodIn_sub (fun _ h => List.mem_cons_of_mem _ (List.mem_append_right _ h)) (by decide +kernel))
set_option maxRecDepth 20000 in
theorem gX10_flat_X10_add : GoodIn wsX10_flat (wsV RX10 69 RX10 yX10_add wsX10_add) := goodIn_app (goodIn_of _ (by decide +kernel)) ggX10_flat_X10_add
theorem dX10_flat_0 : decode cX10_flat 0 = .ok (.aload_n 0, 1) := by decide +kernel
theorem dX10_flat_1 : decode cX10_flat 1 = .ok (.new 9, 3) := by decide +kernel
theorem dX10_flat_4 : decode cX10_flat 4 = .ok (.dup, 1) := by decide +kernel
theorem dX10_flat_5 : decode cX10_flat 5 = .ok (.getstatic 110, 3) := by decide +kernel
theorem dX10_flat_8 : decode cX10_flat 8 = .ok (.iconst 0, 1) := by decide +kernel
theorem dX10_flat_9 : decode cX10_flat 9 = .ok (.aload_n 0, 1) := by decide +kernel
theorem dX10_flat_10 : decode cX10_flat 10 = .ok (.iload_n 1, 1) := by decide +kernel
theorem dX10_flat_11 : decode cX10_flat 11 = .ok (.invokevirtual 91, 3) := by decide +kernel
theorem dX10_flat_14 : decode cX10_flat 14 = .ok (.aconst_null, 1) := by decide +kernel
theorem dX10_flat_15 : decode cX10_flat 15 = .ok (.invokespecial 95, 3) := by decide +kernel
theorem dX10_flat_18 : decode cX10_flat 18 = .ok (.invokevirtual 69, 3) := by decide +kernel
theorem dX10_flat_21 : decode cX10_flat 21 = .ok (.ireturn, 1) := by decide +kernel
set_option maxRecDepth 20000 in
theorem ggX10_broken_X10_nodeOf : GoodIn wsX10_broken wsX10_nodeOf := goodIn_ca (goodIn_r _ [9, 10, 11, 12, 13, 88, 89, 90, 91, 92, 93, 94] (by decide +kernel) (by decide +kernel)) (goodIn_sub (fun _ h => List.mem_cons_of_mem _ (List.mem_append_left _ (List.mem_append_right _ h))) (by decide +kernel))
set_option maxRecDepth 20000 in
theorem gX10_broken_X10_nodeOf : GoodIn wsX10_broken (wsV RX10 91 RX10 yX10_nodeOf wsX10_nodeOf) := goodIn_app (goodIn_of _ (by decide +kernel)) ggX10_broken_X10_nodeOf
set_option maxRecDepth 20000 in
theorem ggX10_broken_X10_add : GoodIn wsX10_broken wsX10_add := goodIn_ca (goodIn_r _ [61, 62, 63, 12, 13, 64, 65, 66, 3, 67, 68, 29, 69, 70, 71, 72, 88, 89, 90, 91, 92, 93, 94, 73, 74, 75, 76, 77, 78, 79, 80, 81, 82, 83, 84, 85, 86, 87] (by decide +kernel) (by decide +kernel)) (goodIn_sub (fun _ h => List.mem_cons_of_mem _ (List.mem_append_right _ h)) (by decide +kernel))
set_option maxRecDepth 20000 in
theorem gX10_broken_X10_add : GoodIn wsX10_broken (wsV RX10 69 RX10 yX10_add wsX10_add) := goodIn_app (goodIn_of _ (by decide +kernel)) ggX10_broken_X10_add
theorem dX10_broken_0 : decode cX10_broken 0 = .ok (.aload_n 0, 1) := by decide +kernel
theorem dX10_broken_1 : decode cX10_broken 1 = .ok (.new 9, 3) := by decide +kernel
theorem dX10_broken_4 : decode cX10_broken 4 = .ok (.dup, 1) := by decide +kernel
theorem dX10_broken_5 : decode cX10_broken 5 = .ok (.getstatic 113, 3) := by decide +kernel
theorem dX10_broken_8 : decode cX10_broken 8 = .ok (.iconst 0, 1) := by decide +kernel
theorem dX10_broken_9 : decode cX10_broken 9 = .ok (.aload_n 0, 1) := by decide +kernel
theorem dX10_broken_10 : decode cX10_broken 10 = .ok (.iload_n 1, 1) := by decide +kernel
theorem dX10_broken_11 : decode cX10_broken 11 = .ok (.invokevirtual 91, 3) := by decide +kernel
theorem dX10_broken_14 : decode cX10_broken 14 = .ok (.aload_n 0, 1) := by decide +kernel
theorem dX10_broken_15 : decode cX10_broken 15 = .ok (.iload_n 2, 1) := by decide +kernel
theorem dX10_broken_16 : decode cX10_broken 16 = .ok (.invokevirtual 91, 3) := by decide +kernel
theorem dX10_broken_19 : decode cX10_broken 19 = .ok (.invokespecial 95, 3) := by decide +kernel
theorem dX10_broken_22 : decode cX10_broken 22 = .ok (.invokevirtual 69, 3) := by decide +kernel
theorem dX10_broken_25 : decode cX10_broken 25 = .ok (.ireturn, 1) := by decide +kernel
set_option maxRecDepth 20000 in
theorem ggX10_price_X10_nodeOf : GoodIn wsX10_price wsX10_nodeOf := goodIn_ca (goodIn_r _ [9, 10, 11, 12, 13, 93, 94, 95, 96, 97, 98, 99] (by decide +kernel) (by decide +kernel)) (goodIn_sub (fun _ h => List.mem_cons_of_mem _ (List.mem_append_left _ (List.mem_append_left _ (List.mem_append_right _ h)))) (by decide +kernel))
set_option maxRecDepth 20000 in
theorem gX10_price_X10_nodeOf : GoodIn wsX10_price (wsV RX10 91 RX10 yX10_nodeOf wsX10_nodeOf) := goodIn_app (goodIn_of _ (by decide +kernel)) ggX10_price_X10_nodeOf
set_option maxRecDepth 20000 in
theorem ggX10_price_X10_checkRange : GoodIn wsX10_price wsX10_checkRange := goodIn_ca (goodIn_r _ [16, 17, 18] (by decide +kernel) (by decide +kernel)) (goodIn_sub (fun _ h => List.mem_cons_of_mem _ (List.mem_append_left _ (List.mem_append_right _ h))) (by decide +kernel))
set_option maxRecDepth 20000 in
theorem gX10_price_X10_checkRange : GoodIn wsX10_price (va_wsS RX10 56 yX10_checkRange wsX10_checkRange) := goodIn_app (goodIn_of _ (by decide +kernel)) ggX10_price_X10_checkRange
set_option maxRecDepth 20000 in
theorem ggX10_price_X10_add : GoodIn wsX10_price wsX10_add := goodIn_ca (goodIn_r _ [66, 67, 68, 12, 13, 69, 70, 71, 3, 72, 73, 34, 74, 75, 76, 77, 93, 94, 95, 96, 97, 98, 99, 78, 79, 80, 81, 82, 83, 84, 85, 86, 87, 88, 89, 90, 91, 92] (by decide +kernel) (by decide +kernel)) (goodIn_sub (fun _ h => List.mem_cons_of_mem _ (List.mem_append_right _ h)) (by decide +kernel))
set_option maxRecDepth 20000 in
theorem gX10_price_X10_add : GoodIn wsX10_price (wsV RX10 69 RX10 yX10_add wsX10_add) := goodIn_app (goodIn_of _ (by decide +kernel)) ggX10_price_X10_add
theorem dX10_price_0 : decode cX10_price 0 = .ok (.aload_n 0, 1) := by decide +kernel
theorem dX10_price_1 : decode cX10_price 1 = .ok (.iload_n 2, 1) := by decide +kernel
theorem dX10_price_2 : decode cX10_price 2 = .ok (.invokevirtual 91, 3) := by decide +kernel
theorem dX10_price_5 : decode cX10_price 5 = .ok (.astore_n 3, 1) := by decide +kernel
theorem dX10_price_6 : decode cX10_price 6 = .ok (.iload_n 1, 1) := by decide +kernel
theorem dX10_price_7 : decode cX10_price 7 = .ok (.iconst 0, 1) := by decide +kernel
theorem dX10_price_8 : decode cX10_price 8 = .ok (.sipush 1000, 3) := by decide +kernel
theorem dX10_price_11 : decode cX10_price 11 = .ok (.invokestatic 56, 3) := by decide +kernel
theorem dX10_price_14 : decode cX10_price 14 = .ok (.aload_n 0, 1) := by decide +kernel
theorem dX10_price_15 : decode cX10_price 15 = .ok (.new 9, 3) := by decide +kernel
theorem dX10_price_18 : decode cX10_price 18 = .ok (.dup, 1) := by decide +kernel
theorem dX10_price_19 : decode cX10_price 19 = .ok (.getstatic 116, 3) := by decide +kernel
theorem dX10_price_22 : decode cX10_price 22 = .ok (.iload_n 1, 1) := by decide +kernel
theorem dX10_price_23 : decode cX10_price 23 = .ok (.aload_n 3, 1) := by decide +kernel
theorem dX10_price_24 : decode cX10_price 24 = .ok (.aconst_null, 1) := by decide +kernel
theorem dX10_price_25 : decode cX10_price 25 = .ok (.invokespecial 95, 3) := by decide +kernel
theorem dX10_price_28 : decode cX10_price 28 = .ok (.invokevirtual 69, 3) := by decide +kernel
theorem dX10_price_31 : decode cX10_price 31 = .ok (.ireturn, 1) := by decide +kernel
set_option maxRecDepth 20000 in
theorem ggX10_keep_X10_nodeOf : GoodIn wsX10_keep wsX10_nodeOf := goodIn_ca (goodIn_r _ [9, 10, 11, 12, 13, 93, 94, 95, 96, 97, 98, 99] (by decide +kernel) (by decide +kernel)) (goodIn_sub (fun _ h => List.mem_cons_of_mem _ (List.mem_append_left _ (List.mem_append_left _ (List.mem_append_right _ h)))) (by decide +kernel))
set_option maxRecDepth 20000 in
theorem gX10_keep_X10_nodeOf : GoodIn wsX10_keep (wsV RX10 91 RX10 yX10_nodeOf wsX10_nodeOf) := goodIn_app (goodIn_of _ (by decide +kernel)) ggX10_keep_X10_nodeOf
set_option maxRecDepth 20000 in
theorem ggX10_keep_X10_checkRange : GoodIn wsX10_keep wsX10_checkRange := goodIn_ca (goodIn_r _ [16, 17, 18] (by decide +kernel) (by decide +kernel)) (goodIn_sub (fun _ h => List.mem_cons_of_mem _ (List.mem_append_left _ (List.mem_append_right _ h))) (by decide +kernel))
set_option maxRecDepth 20000 in
theorem gX10_keep_X10_checkRange : GoodIn wsX10_keep (va_wsS RX10 56 yX10_checkRange wsX10_checkRange) := goodIn_app (goodIn_of _ (by decide +kernel)) ggX10_keep_X10_checkRange
set_option maxRecDepth 20000 in
theorem ggX10_keep_X10_add : GoodIn wsX10_keep wsX10_add := goodIn_ca (goodIn_r _ [66, 67, 68, 12, 13, 69, 70, 71, 3, 72, 73, 34, 74, 75, 76, 77, 93, 94, 95, 96, 97, 98, 99, 78, 79, 80, 81, 82, 83, 84, 85, 86, 87, 88, 89, 90, 91, 92] (by decide +kernel) (by decide +kernel)) (goodIn_sub (fun _ h => List.mem_cons_of_mem _ (List.mem_append_right _ h)) (by decide +kernel))
set_option maxRecDepth 20000 in
theorem gX10_keep_X10_add : GoodIn wsX10_keep (wsV RX10 69 RX10 yX10_add wsX10_add) := goodIn_app (goodIn_of _ (by decide +kernel)) ggX10_keep_X10_add
theorem dX10_keep_0 : decode cX10_keep 0 = .ok (.aload_n 0, 1) := by decide +kernel
theorem dX10_keep_1 : decode cX10_keep 1 = .ok (.iload_n 2, 1) := by decide +kernel
theorem dX10_keep_2 : decode cX10_keep 2 = .ok (.invokevirtual 91, 3) := by decide +kernel
theorem dX10_keep_5 : decode cX10_keep 5 = .ok (.astore_n 3, 1) := by decide +kernel
theorem dX10_keep_6 : decode cX10_keep 6 = .ok (.iload_n 1, 1) := by decide +kernel
theorem dX10_keep_7 : decode cX10_keep 7 = .ok (.iconst 0, 1) := by decide +kernel
theorem dX10_keep_8 : decode cX10_keep 8 = .ok (.sipush 1000, 3) := by decide +kernel
theorem dX10_keep_11 : decode cX10_keep 11 = .ok (.invokestatic 56, 3) := by decide +kernel
theorem dX10_keep_14 : decode cX10_keep 14 = .ok (.aload_n 0, 1) := by decide +kernel
theorem dX10_keep_15 : decode cX10_keep 15 = .ok (.new 9, 3) := by decide +kernel
theorem dX10_keep_18 : decode cX10_keep 18 = .ok (.dup, 1) := by decide +kernel
theorem dX10_keep_19 : decode cX10_keep 19 = .ok (.getstatic 119, 3) := by decide +kernel
theorem dX10_keep_22 : decode cX10_keep 22 = .ok (.iload_n 1, 1) := by decide +kernel
theorem dX10_keep_23 : decode cX10_keep 23 = .ok (.aload_n 3, 1) := by decide +kernel
theorem dX10_keep_24 : decode cX10_keep 24 = .ok (.aconst_null, 1) := by decide +kernel
theorem dX10_keep_25 : decode cX10_keep 25 = .ok (.invokespecial 95, 3) := by decide +kernel
theorem dX10_keep_28 : decode cX10_keep 28 = .ok (.invokevirtual 69, 3) := by decide +kernel
theorem dX10_keep_31 : decode cX10_keep 31 = .ok (.ireturn, 1) := by decide +kernel
set_option maxRecDepth 20000 in
theorem ggX10_cell_X10_nodeOf : GoodIn wsX10_cell wsX10_nodeOf := goodIn_ca (goodIn_r _ [11, 12, 13, 14, 15, 93, 94, 95, 96, 97, 98, 99] (by decide +kernel) (by decide +kernel)) (goodIn_sub (fun _ h => List.mem_cons_of_mem _ (List.mem_append_left _ (List.mem_append_right _ h))) (by decide +kernel))
set_option maxRecDepth 20000 in
theorem gX10_cell_X10_nodeOf : GoodIn wsX10_cell (wsV RX10 91 RX10 yX10_nodeOf wsX10_nodeOf) := goodIn_app (goodIn_of _ (by decide +kernel)) ggX10_cell_X10_nodeOf
set_option maxRecDepth 20000 in
theorem ggX10_cell_X10_checkRange : GoodIn wsX10_cell wsX10_checkRange := goodIn_ca (goodIn_r _ [18, 19, 20] (by decide +kernel) (by decide +kernel)) (goodIn_sub (fun _ h => List.mem_cons_of_mem _ (List.mem_append_right _ h)) (by decide +kernel))
set_option maxRecDepth 20000 in
theorem gX10_cell_X10_checkRange : GoodIn wsX10_cell (va_wsS RX10 56 yX10_checkRange wsX10_checkRange) := goodIn_app (goodIn_of _ (by decide +kernel)) ggX10_cell_X10_checkRange
set_option maxRecDepth 20000 in
theorem ggX10_cell_X10_add : GoodIn wsX10_cell wsX10_add := goodIn_ca (goodIn_r _ [68, 1, 2, 14, 15, 69, 70, 71, 5, 72, 73, 36, 74, 75, 76, 77, 93, 94, 95, 96, 97, 98, 99, 78, 79, 80, 81, 82, 83, 84, 85, 86, 87, 88, 89, 90, 91, 92] (by decide +kernel) (by decide +kernel)) (goodIn_sub (fun _ h => List.mem_cons_of_mem _ (List.mem_append_left _ (List.mem_append_left _ (List.mem_append_right _ h)))) (by decide +kernel))
set_option maxRecDepth 20000 in
theorem gX10_cell_X10_add : GoodIn wsX10_cell (wsV RX10 69 RX10 yX10_add wsX10_add) := goodIn_app (goodIn_of _ (by decide +kernel)) ggX10_cell_X10_add
theorem dX10_cell_0 : decode cX10_cell 0 = .ok (.aload_n 0, 1) := by decide +kernel
theorem dX10_cell_1 : decode cX10_cell 1 = .ok (.iload_n 3, 1) := by decide +kernel
theorem dX10_cell_2 : decode cX10_cell 2 = .ok (.invokevirtual 91, 3) := by decide +kernel
theorem dX10_cell_5 : decode cX10_cell 5 = .ok (.astore 4, 2) := by decide +kernel
theorem dX10_cell_7 : decode cX10_cell 7 = .ok (.iload_n 1, 1) := by decide +kernel
theorem dX10_cell_8 : decode cX10_cell 8 = .ok (.iconst 0, 1) := by decide +kernel
theorem dX10_cell_9 : decode cX10_cell 9 = .ok (.iconst 3, 1) := by decide +kernel
theorem dX10_cell_10 : decode cX10_cell 10 = .ok (.invokestatic 56, 3) := by decide +kernel
theorem dX10_cell_13 : decode cX10_cell 13 = .ok (.iload_n 2, 1) := by decide +kernel
theorem dX10_cell_14 : decode cX10_cell 14 = .ok (.iconst 0, 1) := by decide +kernel
theorem dX10_cell_15 : decode cX10_cell 15 = .ok (.iconst 4, 1) := by decide +kernel
theorem dX10_cell_16 : decode cX10_cell 16 = .ok (.invokestatic 56, 3) := by decide +kernel
theorem dX10_cell_19 : decode cX10_cell 19 = .ok (.aload 4, 2) := by decide +kernel
theorem dX10_cell_21 : decode cX10_cell 21 = .ok (.getfield 122, 3) := by decide +kernel
theorem dX10_cell_24 : decode cX10_cell 24 = .ok (.ifCond .eq 13, 3) := by decide +kernel
theorem dX10_cell_27 : decode cX10_cell 27 = .ok (.new 126, 3) := by decide +kernel
theorem dX10_cell_30 : decode cX10_cell 30 = .ok (.dup, 1) := by decide +kernel
theorem dX10_cell_31 : decode cX10_cell 31 = .ok (.ldc 128, 2) := by decide +kernel
theorem dX10_cell_33 : decode cX10_cell 33 = .ok (.invokespecial 130, 3) := by decide +kernel
theorem dX10_cell_36 : decode cX10_cell 36 = .ok (.athrow, 1) := by decide +kernel
theorem dX10_cell_37 : decode cX10_cell 37 = .ok (.aload_n 0, 1) := by decide +kernel
theorem dX10_cell_38 : decode cX10_cell 38 = .ok (.new 9, 3) := by decide +kernel
theorem dX10_cell_41 : decode cX10_cell 41 = .ok (.dup, 1) := by decide +kernel
theorem dX10_cell_42 : decode cX10_cell 42 = .ok (.getstatic 133, 3) := by decide +kernel
theorem dX10_cell_45 : decode cX10_cell 45 = .ok (.iload_n 1, 1) := by decide +kernel
theorem dX10_cell_46 : decode cX10_cell 46 = .ok (.iconst 5, 1) := by decide +kernel
theorem dX10_cell_47 : decode cX10_cell 47 = .ok (.imul, 1) := by decide +kernel
theorem dX10_cell_48 : decode cX10_cell 48 = .ok (.iload_n 2, 1) := by decide +kernel
theorem dX10_cell_49 : decode cX10_cell 49 = .ok (.iadd, 1) := by decide +kernel
theorem dX10_cell_50 : decode cX10_cell 50 = .ok (.aload 4, 2) := by decide +kernel
theorem dX10_cell_52 : decode cX10_cell 52 = .ok (.aconst_null, 1) := by decide +kernel
theorem dX10_cell_53 : decode cX10_cell 53 = .ok (.invokespecial 95, 3) := by decide +kernel
theorem dX10_cell_56 : decode cX10_cell 56 = .ok (.invokevirtual 69, 3) := by decide +kernel
theorem dX10_cell_59 : decode cX10_cell 59 = .ok (.ireturn, 1) := by decide +kernel
theorem dX10_nodes_0 : decode cX10_nodes 0 = .ok (.aload_n 0, 1) := by decide +kernel
theorem dX10_nodes_1 : decode cX10_nodes 1 = .ok (.getfield 15, 3) := by decide +kernel
theorem dX10_nodes_4 : decode cX10_nodes 4 = .ok (.ireturn, 1) := by decide +kernel
set_option maxRecDepth 20000 in
theorem ggX10_size_X10_nodeOf : GoodIn wsX10_size wsX10_nodeOf := goodIn_ca (goodIn_r _ [5, 6, 7, 8, 9, 25, 26, 27, 28, 29, 30, 31] (by decide +kernel) (by decide +kernel)) (goodIn_sub (fun _ h => List.mem_cons_of_mem _ (List.mem_append_right _ h)) (by decide +kernel))
set_option maxRecDepth 20000 in
theorem gX10_size_X10_nodeOf : GoodIn wsX10_size (wsV RX10 91 RX10 yX10_nodeOf wsX10_nodeOf) := goodIn_app (goodIn_of _ (by decide +kernel)) ggX10_size_X10_nodeOf
theorem dX10_size_0 : decode cX10_size 0 = .ok (.aload_n 0, 1) := by decide +kernel
theorem dX10_size_1 : decode cX10_size 1 = .ok (.iload_n 1, 1) := by decide +kernel
theorem dX10_size_2 : decode cX10_size 2 = .ok (.invokevirtual 91, 3) := by decide +kernel
theorem dX10_size_5 : decode cX10_size 5 = .ok (.getfield 136, 3) := by decide +kernel
theorem dX10_size_8 : decode cX10_size 8 = .ok (.ireturn, 1) := by decide +kernel
set_option maxRecDepth 20000 in
theorem ggX10_layouts_X10_nodeOf : GoodIn wsX10_layouts wsX10_nodeOf := goodIn_ca (goodIn_r _ [5, 6, 7, 8, 9, 25, 26, 27, 28, 29, 30, 31] (by decide +kernel) (by decide +kernel)) (goodIn_sub (fun _ h => List.mem_cons_of_mem _ (List.mem_append_right _ h)) (by decide +kernel))
set_option maxRecDepth 20000 in
theorem gX10_layouts_X10_nodeOf : GoodIn wsX10_layouts (wsV RX10 91 RX10 yX10_nodeOf wsX10_nodeOf) := goodIn_app (goodIn_of _ (by decide +kernel)) ggX10_layouts_X10_nodeOf
theorem dX10_layouts_0 : decode cX10_layouts 0 = .ok (.aload_n 0, 1) := by decide +kernel
theorem dX10_layouts_1 : decode cX10_layouts 1 = .ok (.iload_n 1, 1) := by decide +kernel
theorem dX10_layouts_2 : decode cX10_layouts 2 = .ok (.invokevirtual 91, 3) := by decide +kernel
theorem dX10_layouts_5 : decode cX10_layouts 5 = .ok (.getfield 139, 3) := by decide +kernel
theorem dX10_layouts_8 : decode cX10_layouts 8 = .ok (.ireturn, 1) := by decide +kernel
set_option maxRecDepth 20000 in
theorem ggX10_print_X10_nodeOf : GoodIn wsX10_print wsX10_nodeOf := goodIn_ca (goodIn_r _ [9, 10, 11, 12, 13, 512, 513, 514, 515, 516, 517, 518] (by decide +kernel) (by decide +kernel)) (goodIn_sub (fun _ h => List.mem_cons_of_mem _ (List.mem_append_left _ (List.mem_append_left _ (List.mem_append_right _ h)))) (by decide +kernel))
set_option maxRecDepth 20000 in
theorem gX10_print_X10_nodeOf : GoodIn wsX10_print (wsV RX10 91 RX10 yX10_nodeOf wsX10_nodeOf) := goodIn_app (goodIn_of _ (by decide +kernel)) ggX10_print_X10_nodeOf
theorem dX10_print_0 : decode cX10_print 0 = .ok (.aload_n 0, 1) := by decide +kernel
theorem dX10_print_1 : decode cX10_print 1 = .ok (.iload_n 1, 1) := by decide +kernel
theorem dX10_print_2 : decode cX10_print 2 = .ok (.invokevirtual 91, 3) := by decide +kernel
theorem dX10_print_5 : decode cX10_print 5 = .ok (.astore 5, 2) := by decide +kernel
theorem dX10_print_7 : decode cX10_print 7 = .ok (.aload_n 0, 1) := by decide +kernel
theorem dX10_print_8 : decode cX10_print 8 = .ok (.aload 5, 2) := by decide +kernel
theorem dX10_print_10 : decode cX10_print 10 = .ok (.iload_n 2, 1) := by decide +kernel
theorem dX10_print_11 : decode cX10_print 11 = .ok (.iload_n 3, 1) := by decide +kernel
theorem dX10_print_12 : decode cX10_print 12 = .ok (.iload 4, 2) := by decide +kernel
theorem dX10_print_14 : decode cX10_print 14 = .ok (.invokevirtual 142, 3) := by decide +kernel
theorem dX10_print_17 : decode cX10_print 17 = .ok (.aload_n 0, 1) := by decide +kernel
theorem dX10_print_18 : decode cX10_print 18 = .ok (.getfield 31, 3) := by decide +kernel
theorem dX10_print_21 : decode cX10_print 21 = .ok (.aload 5, 2) := by decide +kernel
theorem dX10_print_23 : decode cX10_print 23 = .ok (.invokevirtual 146, 3) := by decide +kernel
theorem dX10_print_26 : decode cX10_print 26 = .ok (.ifCond .ne 13, 3) := by decide +kernel
theorem dX10_print_29 : decode cX10_print 29 = .ok (.new 126, 3) := by decide +kernel
theorem dX10_print_32 : decode cX10_print 32 = .ok (.dup, 1) := by decide +kernel
theorem dX10_print_33 : decode cX10_print 33 = .ok (.ldc 150, 2) := by decide +kernel
theorem dX10_print_35 : decode cX10_print 35 = .ok (.invokespecial 130, 3) := by decide +kernel
theorem dX10_print_38 : decode cX10_print 38 = .ok (.athrow, 1) := by decide +kernel
theorem dX10_print_39 : decode cX10_print 39 = .ok (.aload_n 0, 1) := by decide +kernel
theorem dX10_print_40 : decode cX10_print 40 = .ok (.getfield 38, 3) := by decide +kernel
theorem dX10_print_43 : decode cX10_print 43 = .ok (.aload 5, 2) := by decide +kernel
theorem dX10_print_45 : decode cX10_print 45 = .ok (.aload_n 0, 1) := by decide +kernel
theorem dX10_print_46 : decode cX10_print 46 = .ok (.getfield 31, 3) := by decide +kernel
theorem dX10_print_49 : decode cX10_print 49 = .ok (.getfield 152, 3) := by decide +kernel
theorem dX10_print_52 : decode cX10_print 52 = .ok (.aload_n 0, 1) := by decide +kernel
theorem dX10_print_53 : decode cX10_print 53 = .ok (.getfield 31, 3) := by decide +kernel
theorem dX10_print_56 : decode cX10_print 56 = .ok (.getfield 155, 3) := by decide +kernel
theorem dX10_print_59 : decode cX10_print 59 = .ok (.invokevirtual 158, 3) := by decide +kernel
theorem dX10_print_62 : decode cX10_print 62 = .ok (.aload_n 0, 1) := by decide +kernel
theorem dX10_print_63 : decode cX10_print 63 = .ok (.invokevirtual 162, 3) := by decide +kernel
theorem dX10_print_66 : decode cX10_print 66 = .ok (.ireturn, 1) := by decide +kernel
set_option maxRecDepth 20000 in
theorem ggX10_printByAll_X10_nodeOf : GoodIn wsX10_printByAll wsX10_nodeOf := goodIn_ca (goodIn_r _ [8, 9, 10, 11, 12, 222, 223, 224, 225, 226, 227, 228] (by decide +kernel) (by decide +kernel)) (goodIn_sub (fun _ h => List.mem_cons_of_mem _ (List.mem_append_left _ (List.mem_append_left _ (List.mem_append_right _ h)))) (by decide +kernel))
set_option maxRecDepth 20000 in
theorem gX10_printByAll_X10_nodeOf : GoodIn wsX10_printByAll (wsV RX10 91 RX10 yX10_nodeOf wsX10_nodeOf) := goodIn_app (goodIn_of _ (by decide +kernel)) ggX10_printByAll_X10_nodeOf
theorem dX10_printByAll_0 : decode cX10_printByAll 0 = .ok (.aload_n 0, 1) := by decide +kernel
theorem dX10_printByAll_1 : decode cX10_printByAll 1 = .ok (.iload_n 1, 1) := by decide +kernel
theorem dX10_printByAll_2 : decode cX10_printByAll 2 = .ok (.invokevirtual 91, 3) := by decide +kernel
theorem dX10_printByAll_5 : decode cX10_printByAll 5 = .ok (.astore 5, 2) := by decide +kernel
theorem dX10_printByAll_7 : decode cX10_printByAll 7 = .ok (.aload_n 0, 1) := by decide +kernel
theorem dX10_printByAll_8 : decode cX10_printByAll 8 = .ok (.aload 5, 2) := by decide +kernel
theorem dX10_printByAll_10 : decode cX10_printByAll 10 = .ok (.iload_n 2, 1) := by decide +kernel
theorem dX10_printByAll_11 : decode cX10_printByAll 11 = .ok (.iload_n 3, 1) := by decide +kernel
theorem dX10_printByAll_12 : decode cX10_printByAll 12 = .ok (.iload 4, 2) := by decide +kernel
theorem dX10_printByAll_14 : decode cX10_printByAll 14 = .ok (.invokevirtual 142, 3) := by decide +kernel
theorem dX10_printByAll_17 : decode cX10_printByAll 17 = .ok (.aload 5, 2) := by decide +kernel
theorem dX10_printByAll_19 : decode cX10_printByAll 19 = .ok (.getfield 139, 3) := by decide +kernel
theorem dX10_printByAll_22 : decode cX10_printByAll 22 = .ok (.bipush 100, 2) := by decide +kernel
theorem dX10_printByAll_24 : decode cX10_printByAll 24 = .ok (.if_icmp .le 13, 3) := by decide +kernel
theorem dX10_printByAll_27 : decode cX10_printByAll 27 = .ok (.new 126, 3) := by decide +kernel
theorem dX10_printByAll_30 : decode cX10_printByAll 30 = .ok (.dup, 1) := by decide +kernel
theorem dX10_printByAll_31 : decode cX10_printByAll 31 = .ok (.ldc 166, 2) := by decide +kernel
theorem dX10_printByAll_33 : decode cX10_printByAll 33 = .ok (.invokespecial 130, 3) := by decide +kernel
theorem dX10_printByAll_36 : decode cX10_printByAll 36 = .ok (.athrow, 1) := by decide +kernel
theorem dX10_printByAll_37 : decode cX10_printByAll 37 = .ok (.aload_n 0, 1) := by decide +kernel
theorem dX10_printByAll_38 : decode cX10_printByAll 38 = .ok (.getfield 38, 3) := by decide +kernel
theorem dX10_printByAll_41 : decode cX10_printByAll 41 = .ok (.aload 5, 2) := by decide +kernel
theorem dX10_printByAll_43 : decode cX10_printByAll 43 = .ok (.invokevirtual 168, 3) := by decide +kernel
theorem dX10_printByAll_46 : decode cX10_printByAll 46 = .ok (.ifCond .ne 13, 3) := by decide +kernel
theorem dX10_printByAll_49 : decode cX10_printByAll 49 = .ok (.new 126, 3) := by decide +kernel
theorem dX10_printByAll_52 : decode cX10_printByAll 52 = .ok (.dup, 1) := by decide +kernel
theorem dX10_printByAll_53 : decode cX10_printByAll 53 = .ok (.ldc 150, 2) := by decide +kernel
theorem dX10_printByAll_55 : decode cX10_printByAll 55 = .ok (.invokespecial 130, 3) := by decide +kernel
theorem dX10_printByAll_58 : decode cX10_printByAll 58 = .ok (.athrow, 1) := by decide +kernel
theorem dX10_printByAll_59 : decode cX10_printByAll 59 = .ok (.aload_n 0, 1) := by decide +kernel
theorem dX10_printByAll_60 : decode cX10_printByAll 60 = .ok (.invokevirtual 162, 3) := by decide +kernel
theorem dX10_printByAll_63 : decode cX10_printByAll 63 = .ok (.ireturn, 1) := by decide +kernel
set_option maxRecDepth 20000 in
theorem ggX10_printGreedy_X10_nodeOf : GoodIn wsX10_printGreedy wsX10_nodeOf := goodIn_ca (goodIn_r _ [8, 9, 10, 11, 12, 212, 213, 214, 215, 216, 217, 218] (by decide +kernel) (by decide +kernel)) (goodIn_sub (fun _ h => List.mem_cons_of_mem _ (List.mem_append_left _ (List.mem_append_left _ (List.mem_append_right _ h)))) (by decide +kernel))
set_option maxRecDepth 20000 in
theorem gX10_printGreedy_X10_nodeOf : GoodIn wsX10_printGreedy (wsV RX10 91 RX10 yX10_nodeOf wsX10_nodeOf) := goodIn_app (goodIn_of _ (by decide +kernel)) ggX10_printGreedy_X10_nodeOf
theorem dX10_printGreedy_0 : decode cX10_printGreedy 0 = .ok (.aload_n 0, 1) := by decide +kernel
theorem dX10_printGreedy_1 : decode cX10_printGreedy 1 = .ok (.iload_n 1, 1) := by decide +kernel
theorem dX10_printGreedy_2 : decode cX10_printGreedy 2 = .ok (.invokevirtual 91, 3) := by decide +kernel
theorem dX10_printGreedy_5 : decode cX10_printGreedy 5 = .ok (.astore 5, 2) := by decide +kernel
theorem dX10_printGreedy_7 : decode cX10_printGreedy 7 = .ok (.aload_n 0, 1) := by decide +kernel
theorem dX10_printGreedy_8 : decode cX10_printGreedy 8 = .ok (.aload 5, 2) := by decide +kernel
theorem dX10_printGreedy_10 : decode cX10_printGreedy 10 = .ok (.iload_n 2, 1) := by decide +kernel
theorem dX10_printGreedy_11 : decode cX10_printGreedy 11 = .ok (.iload_n 3, 1) := by decide +kernel
theorem dX10_printGreedy_12 : decode cX10_printGreedy 12 = .ok (.iload 4, 2) := by decide +kernel
theorem dX10_printGreedy_14 : decode cX10_printGreedy 14 = .ok (.invokevirtual 142, 3) := by decide +kernel
theorem dX10_printGreedy_17 : decode cX10_printGreedy 17 = .ok (.aload_n 0, 1) := by decide +kernel
theorem dX10_printGreedy_18 : decode cX10_printGreedy 18 = .ok (.getfield 38, 3) := by decide +kernel
theorem dX10_printGreedy_21 : decode cX10_printGreedy 21 = .ok (.aload 5, 2) := by decide +kernel
theorem dX10_printGreedy_23 : decode cX10_printGreedy 23 = .ok (.invokevirtual 171, 3) := by decide +kernel
theorem dX10_printGreedy_26 : decode cX10_printGreedy 26 = .ok (.ifCond .ne 13, 3) := by decide +kernel
theorem dX10_printGreedy_29 : decode cX10_printGreedy 29 = .ok (.new 126, 3) := by decide +kernel
theorem dX10_printGreedy_32 : decode cX10_printGreedy 32 = .ok (.dup, 1) := by decide +kernel
theorem dX10_printGreedy_33 : decode cX10_printGreedy 33 = .ok (.ldc 174, 2) := by decide +kernel
theorem dX10_printGreedy_35 : decode cX10_printGreedy 35 = .ok (.invokespecial 130, 3) := by decide +kernel
theorem dX10_printGreedy_38 : decode cX10_printGreedy 38 = .ok (.athrow, 1) := by decide +kernel
theorem dX10_printGreedy_39 : decode cX10_printGreedy 39 = .ok (.aload_n 0, 1) := by decide +kernel
theorem dX10_printGreedy_40 : decode cX10_printGreedy 40 = .ok (.invokevirtual 162, 3) := by decide +kernel
theorem dX10_printGreedy_43 : decode cX10_printGreedy 43 = .ok (.ireturn, 1) := by decide +kernel
theorem dX10_lines_0 : decode cX10_lines 0 = .ok (.aload_n 0, 1) := by decide +kernel
theorem dX10_lines_1 : decode cX10_lines 1 = .ok (.getfield 52, 3) := by decide +kernel
theorem dX10_lines_4 : decode cX10_lines 4 = .ok (.getfield 176, 3) := by decide +kernel
theorem dX10_lines_7 : decode cX10_lines 7 = .ok (.ireturn, 1) := by decide +kernel
set_option maxRecDepth 20000 in
theorem ggX10_length_X10_checkLine : GoodIn wsX10_length wsX10_checkLine := goodIn_ca (goodIn_r _ [6, 7, 8, 1, 16, 17, 18, 19, 20, 21, 22, 23, 24, 25, 26, 27, 28, 29, 30, 31, 32, 33, 34, 35, 36, 37] (by decide +kernel) (by decide +kernel)) (goodIn_sub (fun _ h => List.mem_cons_of_mem _ (List.mem_append_left _ (List.mem_append_right _ h))) (by decide +kernel))
set_option maxRecDepth 20000 in
theorem gX10_length_X10_checkLine : GoodIn wsX10_length (wsV RX10 179 RX10 yX10_checkLine wsX10_checkLine) := goodIn_app (goodIn_of _ (by decide +kernel)) ggX10_length_X10_checkLine
theorem dX10_length_0 : decode cX10_length 0 = .ok (.aload_n 0, 1) := by decide +kernel
theorem dX10_length_1 : decode cX10_length 1 = .ok (.iload_n 1, 1) := by decide +kernel
theorem dX10_length_2 : decode cX10_length 2 = .ok (.invokevirtual 179, 3) := by decide +kernel
theorem dX10_length_5 : decode cX10_length 5 = .ok (.aload_n 0, 1) := by decide +kernel
theorem dX10_length_6 : decode cX10_length 6 = .ok (.getfield 52, 3) := by decide +kernel
theorem dX10_length_9 : decode cX10_length 9 = .ok (.iload_n 1, 1) := by decide +kernel
theorem dX10_length_10 : decode cX10_length 10 = .ok (.invokevirtual 183, 3) := by decide +kernel
theorem dX10_length_13 : decode cX10_length 13 = .ok (.ireturn, 1) := by decide +kernel
set_option maxRecDepth 20000 in
theorem ggX10_signAt_X10_checkColumn : GoodIn wsX10_signAt wsX10_checkColumn := goodIn_ca (goodIn_ca (goodIn_r _ [6, 7, 8, 1, 9, 10, 11, 5, 12, 13, 14, 15, 16, 17, 18, 19, 36, 37, 38, 39, 40, 41, 42, 43, 44, 45, 46, 47, 48, 49, 50, 51, 52, 53, 54, 55, 56, 57] (by decide +kernel) (by decide +kernel)) (goodIn_sub (fun _ h => List.mem_cons_of_mem _ (List.mem_append_left _ (List.mem_append_right _ h))) (by decide +kernel))) (goodIn_sub (fun _ h => List.mem_cons_of_mem _ (List.mem_append_right _ h)) (by decide +kernel))
set_option maxRecDepth 20000 in
theorem gX10_signAt_X10_checkColumn : GoodIn wsX10_signAt (wsV RX10 187 RX10 yX10_checkColumn wsX10_checkColumn) := goodIn_app (goodIn_of _ (by decide +kernel)) ggX10_signAt_X10_checkColumn
theorem dX10_signAt_0 : decode cX10_signAt 0 = .ok (.aload_n 0, 1) := by decide +kernel
theorem dX10_signAt_1 : decode cX10_signAt 1 = .ok (.iload_n 1, 1) := by decide +kernel
theorem dX10_signAt_2 : decode cX10_signAt 2 = .ok (.iload_n 2, 1) := by decide +kernel
theorem dX10_signAt_3 : decode cX10_signAt 3 = .ok (.invokevirtual 187, 3) := by decide +kernel
theorem dX10_signAt_6 : decode cX10_signAt 6 = .ok (.aload_n 0, 1) := by decide +kernel
theorem dX10_signAt_7 : decode cX10_signAt 7 = .ok (.getfield 52, 3) := by decide +kernel
theorem dX10_signAt_10 : decode cX10_signAt 10 = .ok (.iload_n 1, 1) := by decide +kernel
theorem dX10_signAt_11 : decode cX10_signAt 11 = .ok (.iload_n 2, 1) := by decide +kernel
theorem dX10_signAt_12 : decode cX10_signAt 12 = .ok (.invokevirtual 191, 3) := by decide +kernel
theorem dX10_signAt_15 : decode cX10_signAt 15 = .ok (.astore_n 3, 1) := by decide +kernel
theorem dX10_signAt_16 : decode cX10_signAt 16 = .ok (.aload_n 3, 1) := by decide +kernel
theorem dX10_signAt_17 : decode cX10_signAt 17 = .ok (.ifnonnull 8, 3) := by decide +kernel
theorem dX10_signAt_20 : decode cX10_signAt 20 = .ok (.bipush 32, 2) := by decide +kernel
theorem dX10_signAt_22 : decode cX10_signAt 22 = .ok (.goto 7, 3) := by decide +kernel
theorem dX10_signAt_25 : decode cX10_signAt 25 = .ok (.aload_n 3, 1) := by decide +kernel
theorem dX10_signAt_26 : decode cX10_signAt 26 = .ok (.invokevirtual 195, 3) := by decide +kernel
theorem dX10_signAt_29 : decode cX10_signAt 29 = .ok (.ireturn, 1) := by decide +kernel
set_option maxRecDepth 20000 in
theorem ggX10_nodeAt_X10_checkColumn : GoodIn wsX10_nodeAt wsX10_checkColumn := goodIn_ca (goodIn_ca (goodIn_r _ [6, 7, 8, 1, 9, 10, 11, 5, 12, 13, 14, 15, 16, 17, 18, 19, 28, 29, 30, 31, 32, 33, 34, 50, 51, 52, 53, 54, 55, 56, 57, 58, 59, 60, 61, 62, 63, 64] (by decide +kernel) (by decide +kernel)) (goodIn_sub (fun _ h => List.mem_cons_of_mem _ (List.mem_append_left _ (List.mem_append_right _ h))) (by decide +kernel))) (goodIn_sub (fun _ h => List.mem_cons_of_mem _ (List.mem_append_right _ h)) (by decide +kernel))
set_option maxRecDepth 20000 in
theorem gX10_nodeAt_X10_checkColumn : GoodIn wsX10_nodeAt (wsV RX10 187 RX10 yX10_checkColumn wsX10_checkColumn) := goodIn_app (goodIn_of _ (by decide +kernel)) ggX10_nodeAt_X10_checkColumn
theorem dX10_nodeAt_0 : decode cX10_nodeAt 0 = .ok (.aload_n 0, 1) := by decide +kernel
theorem dX10_nodeAt_1 : decode cX10_nodeAt 1 = .ok (.iload_n 1, 1) := by decide +kernel
theorem dX10_nodeAt_2 : decode cX10_nodeAt 2 = .ok (.iload_n 2, 1) := by decide +kernel
theorem dX10_nodeAt_3 : decode cX10_nodeAt 3 = .ok (.invokevirtual 187, 3) := by decide +kernel
theorem dX10_nodeAt_6 : decode cX10_nodeAt 6 = .ok (.aload_n 0, 1) := by decide +kernel
theorem dX10_nodeAt_7 : decode cX10_nodeAt 7 = .ok (.getfield 52, 3) := by decide +kernel
theorem dX10_nodeAt_10 : decode cX10_nodeAt 10 = .ok (.iload_n 1, 1) := by decide +kernel
theorem dX10_nodeAt_11 : decode cX10_nodeAt 11 = .ok (.iload_n 2, 1) := by decide +kernel
theorem dX10_nodeAt_12 : decode cX10_nodeAt 12 = .ok (.invokevirtual 191, 3) := by decide +kernel
theorem dX10_nodeAt_15 : decode cX10_nodeAt 15 = .ok (.astore_n 3, 1) := by decide +kernel
theorem dX10_nodeAt_16 : decode cX10_nodeAt 16 = .ok (.aload_n 3, 1) := by decide +kernel
theorem dX10_nodeAt_17 : decode cX10_nodeAt 17 = .ok (.ifnonnull 7, 3) := by decide +kernel
theorem dX10_nodeAt_20 : decode cX10_nodeAt 20 = .ok (.iconst (-1), 1) := by decide +kernel
theorem dX10_nodeAt_21 : decode cX10_nodeAt 21 = .ok (.goto 7, 3) := by decide +kernel
theorem dX10_nodeAt_24 : decode cX10_nodeAt 24 = .ok (.aload_n 3, 1) := by decide +kernel
theorem dX10_nodeAt_25 : decode cX10_nodeAt 25 = .ok (.getfield 199, 3) := by decide +kernel
theorem dX10_nodeAt_28 : decode cX10_nodeAt 28 = .ok (.ireturn, 1) := by decide +kernel
set_option maxRecDepth 20000 in
theorem ggX10_placeOf_X10_nodeOf : GoodIn wsX10_placeOf wsX10_nodeOf := goodIn_ca (goodIn_r _ [6, 7, 8, 9, 10, 17, 18, 19, 20, 21, 22, 23] (by decide +kernel) (by decide +kernel)) (goodIn_sub (fun _ h => List.mem_cons_of_mem _ (List.mem_append_left _ (List.mem_append_right _ h))) (by decide +kernel))
set_option maxRecDepth 20000 in
theorem gX10_placeOf_X10_nodeOf : GoodIn wsX10_placeOf (wsV RX10 91 RX10 yX10_nodeOf wsX10_nodeOf) := goodIn_app (goodIn_of _ (by decide +kernel)) ggX10_placeOf_X10_nodeOf
theorem dX10_placeOf_0 : decode cX10_placeOf 0 = .ok (.aload_n 0, 1) := by decide +kernel
theorem dX10_placeOf_1 : decode cX10_placeOf 1 = .ok (.getfield 52, 3) := by decide +kernel
theorem dX10_placeOf_4 : decode cX10_placeOf 4 = .ok (.aload_n 0, 1) := by decide +kernel
theorem dX10_placeOf_5 : decode cX10_placeOf 5 = .ok (.iload_n 1, 1) := by decide +kernel
theorem dX10_placeOf_6 : decode cX10_placeOf 6 = .ok (.invokevirtual 91, 3) := by decide +kernel
theorem dX10_placeOf_9 : decode cX10_placeOf 9 = .ok (.invokevirtual 202, 3) := by decide +kernel
theorem dX10_placeOf_12 : decode cX10_placeOf 12 = .ok (.ireturn, 1) := by decide +kernel
theorem dX10_decisions_0 : decode cX10_decisions 0 = .ok (.aload_n 0, 1) := by decide +kernel
theorem dX10_decisions_1 : decode cX10_decisions 1 = .ok (.getfield 52, 3) := by decide +kernel
theorem dX10_decisions_4 : decode cX10_decisions 4 = .ok (.getfield 205, 3) := by decide +kernel
theorem dX10_decisions_7 : decode cX10_decisions 7 = .ok (.ireturn, 1) := by decide +kernel
theorem dX10_wayAt_0 : decode cX10_wayAt 0 = .ok (.iload_n 1, 1) := by decide +kernel
theorem dX10_wayAt_1 : decode cX10_wayAt 1 = .ok (.ifCond .lt 14, 3) := by decide +kernel
theorem dX10_wayAt_4 : decode cX10_wayAt 4 = .ok (.iload_n 1, 1) := by decide +kernel
theorem dX10_wayAt_5 : decode cX10_wayAt 5 = .ok (.aload_n 0, 1) := by decide +kernel
theorem dX10_wayAt_6 : decode cX10_wayAt 6 = .ok (.getfield 52, 3) := by decide +kernel
theorem dX10_wayAt_9 : decode cX10_wayAt 9 = .ok (.getfield 205, 3) := by decide +kernel
theorem dX10_wayAt_12 : decode cX10_wayAt 12 = .ok (.if_icmp .lt 13, 3) := by decide +kernel
theorem dX10_wayAt_15 : decode cX10_wayAt 15 = .ok (.new 208, 3) := by decide +kernel
theorem dX10_wayAt_18 : decode cX10_wayAt 18 = .ok (.dup, 1) := by decide +kernel
theorem dX10_wayAt_19 : decode cX10_wayAt 19 = .ok (.ldc 210, 2) := by decide +kernel
theorem dX10_wayAt_21 : decode cX10_wayAt 21 = .ok (.invokespecial 212, 3) := by decide +kernel
theorem dX10_wayAt_24 : decode cX10_wayAt 24 = .ok (.athrow, 1) := by decide +kernel
theorem dX10_wayAt_25 : decode cX10_wayAt 25 = .ok (.aload_n 0, 1) := by decide +kernel
theorem dX10_wayAt_26 : decode cX10_wayAt 26 = .ok (.getfield 52, 3) := by decide +kernel
theorem dX10_wayAt_29 : decode cX10_wayAt 29 = .ok (.getfield 213, 3) := by decide +kernel
theorem dX10_wayAt_32 : decode cX10_wayAt 32 = .ok (.iload_n 1, 1) := by decide +kernel
theorem dX10_wayAt_33 : decode cX10_wayAt 33 = .ok (.invokestatic 216, 3) := by decide +kernel
theorem dX10_wayAt_36 : decode cX10_wayAt 36 = .ok (.ireturn, 1) := by decide +kernel
set_option maxRecDepth 20000 in
theorem ggX10_breakPages_X10_checkRange : GoodIn wsX10_breakPages wsX10_checkRange := goodIn_ca (goodIn_r _ [8, 9, 10] (by decide +kernel) (by decide +kernel)) (goodIn_sub (fun _ h => List.mem_cons_of_mem _ (List.mem_append_left _ (List.mem_append_right _ h))) (by decide +kernel))
set_option maxRecDepth 20000 in
theorem gX10_breakPages_X10_checkRange : GoodIn wsX10_breakPages (va_wsS RX10 56 yX10_checkRange wsX10_checkRange) := goodIn_app (goodIn_of _ (by decide +kernel)) ggX10_breakPages_X10_checkRange
theorem dX10_breakPages_0 : decode cX10_breakPages 0 = .ok (.iload_n 1, 1) := by decide +kernel
theorem dX10_breakPages_1 : decode cX10_breakPages 1 = .ok (.iconst 1, 1) := by decide +kernel
theorem dX10_breakPages_2 : decode cX10_breakPages 2 = .ok (.bipush 20, 2) := by decide +kernel
theorem dX10_breakPages_4 : decode cX10_breakPages 4 = .ok (.invokestatic 56, 3) := by decide +kernel
theorem dX10_breakPages_7 : decode cX10_breakPages 7 = .ok (.aload_n 0, 1) := by decide +kernel
theorem dX10_breakPages_8 : decode cX10_breakPages 8 = .ok (.getfield 52, 3) := by decide +kernel
theorem dX10_breakPages_11 : decode cX10_breakPages 11 = .ok (.getfield 176, 3) := by decide +kernel
theorem dX10_breakPages_14 : decode cX10_breakPages 14 = .ok (.ifCond .ne 13, 3) := by decide +kernel
theorem dX10_breakPages_17 : decode cX10_breakPages 17 = .ok (.new 126, 3) := by decide +kernel
theorem dX10_breakPages_20 : decode cX10_breakPages 20 = .ok (.dup, 1) := by decide +kernel
theorem dX10_breakPages_21 : decode cX10_breakPages 21 = .ok (.ldc 220, 2) := by decide +kernel
theorem dX10_breakPages_23 : decode cX10_breakPages 23 = .ok (.invokespecial 130, 3) := by decide +kernel
theorem dX10_breakPages_26 : decode cX10_breakPages 26 = .ok (.athrow, 1) := by decide +kernel
theorem dX10_breakPages_27 : decode cX10_breakPages 27 = .ok (.aload_n 0, 1) := by decide +kernel
theorem dX10_breakPages_28 : decode cX10_breakPages 28 = .ok (.getfield 45, 3) := by decide +kernel
theorem dX10_breakPages_31 : decode cX10_breakPages 31 = .ok (.aload_n 0, 1) := by decide +kernel
theorem dX10_breakPages_32 : decode cX10_breakPages 32 = .ok (.getfield 52, 3) := by decide +kernel
theorem dX10_breakPages_35 : decode cX10_breakPages 35 = .ok (.iload_n 1, 1) := by decide +kernel
theorem dX10_breakPages_36 : decode cX10_breakPages 36 = .ok (.invokevirtual 222, 3) := by decide +kernel
theorem dX10_breakPages_39 : decode cX10_breakPages 39 = .ok (.ireturn, 1) := by decide +kernel
set_option maxRecDepth 20000 in
theorem ggX10_pageOf_X10_checkLine : GoodIn wsX10_pageOf wsX10_checkLine := goodIn_ca (goodIn_r _ [8, 9, 10, 11, 18, 19, 20, 21, 22, 23, 24, 30, 31, 32, 33, 34, 35, 36, 37, 38, 39, 40, 41, 42, 43, 44] (by decide +kernel) (by decide +kernel)) (goodIn_sub (fun _ h => List.mem_cons_of_mem _ (List.mem_append_left _ (List.mem_append_right _ h))) (by decide +kernel))
set_option maxRecDepth 20000 in
theorem gX10_pageOf_X10_checkLine : GoodIn wsX10_pageOf (wsV RX10 179 RX10 yX10_checkLine wsX10_checkLine) := goodIn_app (goodIn_of _ (by decide +kernel)) ggX10_pageOf_X10_checkLine
theorem dX10_pageOf_0 : decode cX10_pageOf 0 = .ok (.aload_n 0, 1) := by decide +kernel
theorem dX10_pageOf_1 : decode cX10_pageOf 1 = .ok (.iload_n 1, 1) := by decide +kernel
theorem dX10_pageOf_2 : decode cX10_pageOf 2 = .ok (.invokevirtual 179, 3) := by decide +kernel
theorem dX10_pageOf_5 : decode cX10_pageOf 5 = .ok (.aload_n 0, 1) := by decide +kernel
theorem dX10_pageOf_6 : decode cX10_pageOf 6 = .ok (.getfield 45, 3) := by decide +kernel
theorem dX10_pageOf_9 : decode cX10_pageOf 9 = .ok (.getfield 226, 3) := by decide +kernel
theorem dX10_pageOf_12 : decode cX10_pageOf 12 = .ok (.ifCond .ne 13, 3) := by decide +kernel
theorem dX10_pageOf_15 : decode cX10_pageOf 15 = .ok (.new 126, 3) := by decide +kernel
theorem dX10_pageOf_18 : decode cX10_pageOf 18 = .ok (.dup, 1) := by decide +kernel
theorem dX10_pageOf_19 : decode cX10_pageOf 19 = .ok (.ldc 229, 2) := by decide +kernel
theorem dX10_pageOf_21 : decode cX10_pageOf 21 = .ok (.invokespecial 130, 3) := by decide +kernel
theorem dX10_pageOf_24 : decode cX10_pageOf 24 = .ok (.athrow, 1) := by decide +kernel
theorem dX10_pageOf_25 : decode cX10_pageOf 25 = .ok (.aload_n 0, 1) := by decide +kernel
theorem dX10_pageOf_26 : decode cX10_pageOf 26 = .ok (.getfield 45, 3) := by decide +kernel
theorem dX10_pageOf_29 : decode cX10_pageOf 29 = .ok (.iload_n 1, 1) := by decide +kernel
theorem dX10_pageOf_30 : decode cX10_pageOf 30 = .ok (.invokevirtual 231, 3) := by decide +kernel
theorem dX10_pageOf_33 : decode cX10_pageOf 33 = .ok (.ireturn, 1) := by decide +kernel
theorem dX10_checkRange_0 : decode cX10_checkRange 0 = .ok (.iload_n 0, 1) := by decide +kernel
theorem dX10_checkRange_1 : decode cX10_checkRange 1 = .ok (.iload_n 1, 1) := by decide +kernel
theorem dX10_checkRange_2 : decode cX10_checkRange 2 = .ok (.if_icmp .lt 8, 3) := by decide +kernel
theorem dX10_checkRange_5 : decode cX10_checkRange 5 = .ok (.iload_n 0, 1) := by decide +kernel
theorem dX10_checkRange_6 : decode cX10_checkRange 6 = .ok (.iload_n 2, 1) := by decide +kernel
theorem dX10_checkRange_7 : decode cX10_checkRange 7 = .ok (.if_icmp .le 13, 3) := by decide +kernel
theorem dX10_checkRange_10 : decode cX10_checkRange 10 = .ok (.new 234, 3) := by decide +kernel
theorem dX10_checkRange_13 : decode cX10_checkRange 13 = .ok (.dup, 1) := by decide +kernel
theorem dX10_checkRange_14 : decode cX10_checkRange 14 = .ok (.ldc 236, 2) := by decide +kernel
theorem dX10_checkRange_16 : decode cX10_checkRange 16 = .ok (.invokespecial 238, 3) := by decide +kernel
theorem dX10_checkRange_19 : decode cX10_checkRange 19 = .ok (.athrow, 1) := by decide +kernel
theorem dX10_checkRange_20 : decode cX10_checkRange 20 = .ok (.return_, 1) := by decide +kernel
theorem dX10_checkLine_0 : decode cX10_checkLine 0 = .ok (.iload_n 1, 1) := by decide +kernel
theorem dX10_checkLine_1 : decode cX10_checkLine 1 = .ok (.ifCond .lt 14, 3) := by decide +kernel
theorem dX10_checkLine_4 : decode cX10_checkLine 4 = .ok (.iload_n 1, 1) := by decide +kernel
theorem dX10_checkLine_5 : decode cX10_checkLine 5 = .ok (.aload_n 0, 1) := by decide +kernel
theorem dX10_checkLine_6 : decode cX10_checkLine 6 = .ok (.getfield 52, 3) := by decide +kernel
theorem dX10_checkLine_9 : decode cX10_checkLine 9 = .ok (.getfield 176, 3) := by decide +kernel
theorem dX10_checkLine_12 : decode cX10_checkLine 12 = .ok (.if_icmp .lt 13, 3) := by decide +kernel
theorem dX10_checkLine_15 : decode cX10_checkLine 15 = .ok (.new 208, 3) := by decide +kernel
theorem dX10_checkLine_18 : decode cX10_checkLine 18 = .ok (.dup, 1) := by decide +kernel
theorem dX10_checkLine_19 : decode cX10_checkLine 19 = .ok (.ldc 239, 2) := by decide +kernel
theorem dX10_checkLine_21 : decode cX10_checkLine 21 = .ok (.invokespecial 212, 3) := by decide +kernel
theorem dX10_checkLine_24 : decode cX10_checkLine 24 = .ok (.athrow, 1) := by decide +kernel
theorem dX10_checkLine_25 : decode cX10_checkLine 25 = .ok (.return_, 1) := by decide +kernel
set_option maxRecDepth 20000 in
theorem ggX10_checkColumn_X10_checkLine : GoodIn wsX10_checkColumn wsX10_checkLine := goodIn_ca (goodIn_r _ [8, 1, 2, 3, 16, 17, 18, 19, 20, 21, 22, 23, 24, 25, 26, 27, 28, 29, 30, 31, 32, 33, 34, 35, 36, 37] (by decide +kernel) (by decide +kernel)) (goodIn_sub (fun _ h => List.mem_cons_of_mem _ (List.mem_append_left _ (List.mem_append_right _ h))) (by decide +kernel))
set_option maxRecDepth 20000 in
theorem gX10_checkColumn_X10_checkLine : GoodIn wsX10_checkColumn (wsV RX10 179 RX10 yX10_checkLine wsX10_checkLine) := goodIn_app (goodIn_of _ (by decide +kernel)) ggX10_checkColumn_X10_checkLine
theorem dX10_checkColumn_0 : decode cX10_checkColumn 0 = .ok (.aload_n 0, 1) := by decide +kernel
theorem dX10_checkColumn_1 : decode cX10_checkColumn 1 = .ok (.iload_n 1, 1) := by decide +kernel
theorem dX10_checkColumn_2 : decode cX10_checkColumn 2 = .ok (.invokevirtual 179, 3) := by decide +kernel
theorem dX10_checkColumn_5 : decode cX10_checkColumn 5 = .ok (.iload_n 2, 1) := by decide +kernel
theorem dX10_checkColumn_6 : decode cX10_checkColumn 6 = .ok (.ifCond .lt 15, 3) := by decide +kernel
theorem dX10_checkColumn_9 : decode cX10_checkColumn 9 = .ok (.iload_n 2, 1) := by decide +kernel
theorem dX10_checkColumn_10 : decode cX10_checkColumn 10 = .ok (.aload_n 0, 1) := by decide +kernel
theorem dX10_checkColumn_11 : decode cX10_checkColumn 11 = .ok (.getfield 52, 3) := by decide +kernel
theorem dX10_checkColumn_14 : decode cX10_checkColumn 14 = .ok (.iload_n 1, 1) := by decide +kernel
theorem dX10_checkColumn_15 : decode cX10_checkColumn 15 = .ok (.invokevirtual 183, 3) := by decide +kernel
theorem dX10_checkColumn_18 : decode cX10_checkColumn 18 = .ok (.if_icmp .lt 13, 3) := by decide +kernel
theorem dX10_checkColumn_21 : decode cX10_checkColumn 21 = .ok (.new 208, 3) := by decide +kernel
theorem dX10_checkColumn_24 : decode cX10_checkColumn 24 = .ok (.dup, 1) := by decide +kernel
theorem dX10_checkColumn_25 : decode cX10_checkColumn 25 = .ok (.ldc 241, 2) := by decide +kernel
theorem dX10_checkColumn_27 : decode cX10_checkColumn 27 = .ok (.invokespecial 212, 3) := by decide +kernel
theorem dX10_checkColumn_30 : decode cX10_checkColumn 30 = .ok (.athrow, 1) := by decide +kernel
theorem dX10_checkColumn_31 : decode cX10_checkColumn 31 = .ok (.return_, 1) := by decide +kernel
theorem dX10_nodeOf_0 : decode cX10_nodeOf 0 = .ok (.iload_n 1, 1) := by decide +kernel
theorem dX10_nodeOf_1 : decode cX10_nodeOf 1 = .ok (.ifCond .lt 20, 3) := by decide +kernel
theorem dX10_nodeOf_4 : decode cX10_nodeOf 4 = .ok (.iload_n 1, 1) := by decide +kernel
theorem dX10_nodeOf_5 : decode cX10_nodeOf 5 = .ok (.aload_n 0, 1) := by decide +kernel
theorem dX10_nodeOf_6 : decode cX10_nodeOf 6 = .ok (.getfield 15, 3) := by decide +kernel
theorem dX10_nodeOf_9 : decode cX10_nodeOf 9 = .ok (.if_icmp .ge 12, 3) := by decide +kernel
theorem dX10_nodeOf_12 : decode cX10_nodeOf 12 = .ok (.iload_n 1, 1) := by decide +kernel
theorem dX10_nodeOf_13 : decode cX10_nodeOf 13 = .ok (.aload_n 0, 1) := by decide +kernel
theorem dX10_nodeOf_14 : decode cX10_nodeOf 14 = .ok (.getfield 11, 3) := by decide +kernel
theorem dX10_nodeOf_17 : decode cX10_nodeOf 17 = .ok (.arraylength, 1) := by decide +kernel
theorem dX10_nodeOf_18 : decode cX10_nodeOf 18 = .ok (.if_icmp .lt 13, 3) := by decide +kernel
theorem dX10_nodeOf_21 : decode cX10_nodeOf 21 = .ok (.new 208, 3) := by decide +kernel
theorem dX10_nodeOf_24 : decode cX10_nodeOf 24 = .ok (.dup, 1) := by decide +kernel
theorem dX10_nodeOf_25 : decode cX10_nodeOf 25 = .ok (.ldc 243, 2) := by decide +kernel
theorem dX10_nodeOf_27 : decode cX10_nodeOf 27 = .ok (.invokespecial 212, 3) := by decide +kernel
theorem dX10_nodeOf_30 : decode cX10_nodeOf 30 = .ok (.athrow, 1) := by decide +kernel
theorem dX10_nodeOf_31 : decode cX10_nodeOf 31 = .ok (.aload_n 0, 1) := by decide +kernel
theorem dX10_nodeOf_32 : decode cX10_nodeOf 32 = .ok (.getfield 11, 3) := by decide +kernel
theorem dX10_nodeOf_35 : decode cX10_nodeOf 35 = .ok (.iload_n 1, 1) := by decide +kernel
theorem dX10_nodeOf_36 : decode cX10_nodeOf 36 = .ok (.aaload, 1) := by decide +kernel
theorem dX10_nodeOf_37 : decode cX10_nodeOf 37 = .ok (.astore_n 2, 1) := by decide +kernel
theorem dX10_nodeOf_38 : decode cX10_nodeOf 38 = .ok (.aload_n 2, 1) := by decide +kernel
theorem dX10_nodeOf_39 : decode cX10_nodeOf 39 = .ok (.ifnonnull 13, 3) := by decide +kernel
theorem dX10_nodeOf_42 : decode cX10_nodeOf 42 = .ok (.new 208, 3) := by decide +kernel
theorem dX10_nodeOf_45 : decode cX10_nodeOf 45 = .ok (.dup, 1) := by decide +kernel
theorem dX10_nodeOf_46 : decode cX10_nodeOf 46 = .ok (.ldc 243, 2) := by decide +kernel
theorem dX10_nodeOf_48 : decode cX10_nodeOf 48 = .ok (.invokespecial 212, 3) := by decide +kernel
theorem dX10_nodeOf_51 : decode cX10_nodeOf 51 = .ok (.athrow, 1) := by decide +kernel
theorem dX10_nodeOf_52 : decode cX10_nodeOf 52 = .ok (.aload_n 2, 1) := by decide +kernel
theorem dX10_nodeOf_53 : decode cX10_nodeOf 53 = .ok (.areturn, 1) := by decide +kernel
set_option maxRecDepth 20000 in
theorem ggX10_add_X4_take : GoodIn wsX10_add wsX4_take := goodIn_r _ [9, 10, 11, 12, 13, 14, 8, 15, 23, 24, 25, 26, 27, 28, 29, 30, 31, 32, 33, 34, 35, 36, 37] (by decide +kernel) (by decide +kernel)
set_option maxRecDepth 20000 in
theorem gX10_add_X4_take : GoodIn wsX10_add (wsV RX10 252 RX4 yX4_take wsX4_take) := goodIn_app (goodIn_of _ (by decide +kernel)) ggX10_add_X4_take
theorem dX10_add_0 : decode cX10_add 0 = .ok (.aload_n 0, 1) := by decide +kernel
theorem dX10_add_1 : decode cX10_add 1 = .ok (.getfield 15, 3) := by decide +kernel
theorem dX10_add_4 : decode cX10_add 4 = .ok (.aload_n 0, 1) := by decide +kernel
theorem dX10_add_5 : decode cX10_add 5 = .ok (.getfield 11, 3) := by decide +kernel
theorem dX10_add_8 : decode cX10_add 8 = .ok (.arraylength, 1) := by decide +kernel
theorem dX10_add_9 : decode cX10_add 9 = .ok (.if_icmp .lt 13, 3) := by decide +kernel
theorem dX10_add_12 : decode cX10_add 12 = .ok (.new 126, 3) := by decide +kernel
theorem dX10_add_15 : decode cX10_add 15 = .ok (.dup, 1) := by decide +kernel
theorem dX10_add_16 : decode cX10_add 16 = .ok (.ldc 245, 2) := by decide +kernel
theorem dX10_add_18 : decode cX10_add 18 = .ok (.invokespecial 130, 3) := by decide +kernel
theorem dX10_add_21 : decode cX10_add 21 = .ok (.athrow, 1) := by decide +kernel
theorem dX10_add_22 : decode cX10_add 22 = .ok (.aload_n 1, 1) := by decide +kernel
theorem dX10_add_23 : decode cX10_add 23 = .ok (.getfield 136, 3) := by decide +kernel
theorem dX10_add_26 : decode cX10_add 26 = .ok (.bipush 30, 2) := by decide +kernel
theorem dX10_add_28 : decode cX10_add 28 = .ok (.if_icmp .gt 12, 3) := by decide +kernel
theorem dX10_add_31 : decode cX10_add 31 = .ok (.aload_n 1, 1) := by decide +kernel
theorem dX10_add_32 : decode cX10_add 32 = .ok (.getfield 247, 3) := by decide +kernel
theorem dX10_add_35 : decode cX10_add 35 = .ok (.bipush 30, 2) := by decide +kernel
theorem dX10_add_37 : decode cX10_add 37 = .ok (.if_icmp .le 13, 3) := by decide +kernel
theorem dX10_add_40 : decode cX10_add 40 = .ok (.new 126, 3) := by decide +kernel
theorem dX10_add_43 : decode cX10_add 43 = .ok (.dup, 1) := by decide +kernel
theorem dX10_add_44 : decode cX10_add 44 = .ok (.ldc 250, 2) := by decide +kernel
theorem dX10_add_46 : decode cX10_add 46 = .ok (.invokespecial 130, 3) := by decide +kernel
theorem dX10_add_49 : decode cX10_add 49 = .ok (.athrow, 1) := by decide +kernel
theorem dX10_add_50 : decode cX10_add 50 = .ok (.aload_n 1, 1) := by decide +kernel
theorem dX10_add_51 : decode cX10_add 51 = .ok (.aload_n 0, 1) := by decide +kernel
theorem dX10_add_52 : decode cX10_add 52 = .ok (.getfield 15, 3) := by decide +kernel
theorem dX10_add_55 : decode cX10_add 55 = .ok (.invokevirtual 252, 3) := by decide +kernel
theorem dX10_add_58 : decode cX10_add 58 = .ok (.aload_n 0, 1) := by decide +kernel
theorem dX10_add_59 : decode cX10_add 59 = .ok (.getfield 11, 3) := by decide +kernel
theorem dX10_add_62 : decode cX10_add 62 = .ok (.aload_n 0, 1) := by decide +kernel
theorem dX10_add_63 : decode cX10_add 63 = .ok (.getfield 15, 3) := by decide +kernel
theorem dX10_add_66 : decode cX10_add 66 = .ok (.aload_n 1, 1) := by decide +kernel
theorem dX10_add_67 : decode cX10_add 67 = .ok (.aastore, 1) := by decide +kernel
theorem dX10_add_68 : decode cX10_add 68 = .ok (.aload_n 0, 1) := by decide +kernel
theorem dX10_add_69 : decode cX10_add 69 = .ok (.dup, 1) := by decide +kernel
theorem dX10_add_70 : decode cX10_add 70 = .ok (.getfield 15, 3) := by decide +kernel
theorem dX10_add_73 : decode cX10_add 73 = .ok (.iconst 1, 1) := by decide +kernel
theorem dX10_add_74 : decode cX10_add 74 = .ok (.iadd, 1) := by decide +kernel
theorem dX10_add_75 : decode cX10_add 75 = .ok (.putfield 15, 3) := by decide +kernel
theorem dX10_add_78 : decode cX10_add 78 = .ok (.aload_n 1, 1) := by decide +kernel
theorem dX10_add_79 : decode cX10_add 79 = .ok (.getfield 199, 3) := by decide +kernel
theorem dX10_add_82 : decode cX10_add 82 = .ok (.ireturn, 1) := by decide +kernel
theorem dX11_init_0 : decode cX11_init 0 = .ok (.aload_n 0, 1) := by decide +kernel
theorem dX11_init_1 : decode cX11_init 1 = .ok (.invokespecial 1, 3) := by decide +kernel
theorem dX11_init_4 : decode cX11_init 4 = .ok (.aload_n 0, 1) := by decide +kernel
theorem dX11_init_5 : decode cX11_init 5 = .ok (.bipush 60, 2) := by decide +kernel
theorem dX11_init_7 : decode cX11_init 7 = .ok (.newarray .int, 2) := by decide +kernel
theorem dX11_init_9 : decode cX11_init 9 = .ok (.putfield 7, 3) := by decide +kernel
theorem dX11_init_12 : decode cX11_init 12 = .ok (.aload_n 0, 1) := by decide +kernel
theorem dX11_init_13 : decode cX11_init 13 = .ok (.bipush 60, 2) := by decide +kernel
theorem dX11_init_15 : decode cX11_init 15 = .ok (.newarray .int, 2) := by decide +kernel
theorem dX11_init_17 : decode cX11_init 17 = .ok (.putfield 13, 3) := by decide +kernel
theorem dX11_init_20 : decode cX11_init 20 = .ok (.aload_n 0, 1) := by decide +kernel
theorem dX11_init_21 : decode cX11_init 21 = .ok (.bipush 60, 2) := by decide +kernel
theorem dX11_init_23 : decode cX11_init 23 = .ok (.newarray .int, 2) := by decide +kernel
theorem dX11_init_25 : decode cX11_init 25 = .ok (.putfield 16, 3) := by decide +kernel
theorem dX11_init_28 : decode cX11_init 28 = .ok (.aload_n 0, 1) := by decide +kernel
theorem dX11_init_29 : decode cX11_init 29 = .ok (.bipush 60, 2) := by decide +kernel
theorem dX11_init_31 : decode cX11_init 31 = .ok (.newarray .int, 2) := by decide +kernel
theorem dX11_init_33 : decode cX11_init 33 = .ok (.putfield 19, 3) := by decide +kernel
theorem dX11_init_36 : decode cX11_init 36 = .ok (.aload_n 0, 1) := by decide +kernel
theorem dX11_init_37 : decode cX11_init 37 = .ok (.bipush 60, 2) := by decide +kernel
theorem dX11_init_39 : decode cX11_init 39 = .ok (.newarray .int, 2) := by decide +kernel
theorem dX11_init_41 : decode cX11_init 41 = .ok (.putfield 22, 3) := by decide +kernel
theorem dX11_init_44 : decode cX11_init 44 = .ok (.aload_n 0, 1) := by decide +kernel
theorem dX11_init_45 : decode cX11_init 45 = .ok (.bipush 60, 2) := by decide +kernel
theorem dX11_init_47 : decode cX11_init 47 = .ok (.newarray .int, 2) := by decide +kernel
theorem dX11_init_49 : decode cX11_init 49 = .ok (.putfield 25, 3) := by decide +kernel
theorem dX11_init_52 : decode cX11_init 52 = .ok (.aload_n 0, 1) := by decide +kernel
theorem dX11_init_53 : decode cX11_init 53 = .ok (.bipush 60, 2) := by decide +kernel
theorem dX11_init_55 : decode cX11_init 55 = .ok (.newarray .int, 2) := by decide +kernel
theorem dX11_init_57 : decode cX11_init 57 = .ok (.putfield 28, 3) := by decide +kernel
theorem dX11_init_60 : decode cX11_init 60 = .ok (.aload_n 0, 1) := by decide +kernel
theorem dX11_init_61 : decode cX11_init 61 = .ok (.bipush 60, 2) := by decide +kernel
theorem dX11_init_63 : decode cX11_init 63 = .ok (.newarray .int, 2) := by decide +kernel
theorem dX11_init_65 : decode cX11_init 65 = .ok (.putfield 31, 3) := by decide +kernel
theorem dX11_init_68 : decode cX11_init 68 = .ok (.aload_n 0, 1) := by decide +kernel
theorem dX11_init_69 : decode cX11_init 69 = .ok (.bipush 60, 2) := by decide +kernel
theorem dX11_init_71 : decode cX11_init 71 = .ok (.newarray .int, 2) := by decide +kernel
theorem dX11_init_73 : decode cX11_init 73 = .ok (.putfield 34, 3) := by decide +kernel
theorem dX11_init_76 : decode cX11_init 76 = .ok (.aload_n 0, 1) := by decide +kernel
theorem dX11_init_77 : decode cX11_init 77 = .ok (.bipush 60, 2) := by decide +kernel
theorem dX11_init_79 : decode cX11_init 79 = .ok (.newarray .int, 2) := by decide +kernel
theorem dX11_init_81 : decode cX11_init 81 = .ok (.putfield 37, 3) := by decide +kernel
theorem dX11_init_84 : decode cX11_init 84 = .ok (.aload_n 0, 1) := by decide +kernel
theorem dX11_init_85 : decode cX11_init 85 = .ok (.bipush 60, 2) := by decide +kernel
theorem dX11_init_87 : decode cX11_init 87 = .ok (.newarray .int, 2) := by decide +kernel
theorem dX11_init_89 : decode cX11_init 89 = .ok (.putfield 40, 3) := by decide +kernel
theorem dX11_init_92 : decode cX11_init 92 = .ok (.aload_n 0, 1) := by decide +kernel
theorem dX11_init_93 : decode cX11_init 93 = .ok (.bipush 60, 2) := by decide +kernel
theorem dX11_init_95 : decode cX11_init 95 = .ok (.newarray .boolean, 2) := by decide +kernel
theorem dX11_init_97 : decode cX11_init 97 = .ok (.putfield 43, 3) := by decide +kernel
theorem dX11_init_100 : decode cX11_init 100 = .ok (.aload_n 0, 1) := by decide +kernel
theorem dX11_init_101 : decode cX11_init 101 = .ok (.sipush 8000, 3) := by decide +kernel
theorem dX11_init_104 : decode cX11_init 104 = .ok (.newarray .int, 2) := by decide +kernel
theorem dX11_init_106 : decode cX11_init 106 = .ok (.putfield 47, 3) := by decide +kernel
theorem dX11_init_109 : decode cX11_init 109 = .ok (.aload_n 0, 1) := by decide +kernel
theorem dX11_init_110 : decode cX11_init 110 = .ok (.sipush 8000, 3) := by decide +kernel
theorem dX11_init_113 : decode cX11_init 113 = .ok (.newarray .int, 2) := by decide +kernel
theorem dX11_init_115 : decode cX11_init 115 = .ok (.putfield 50, 3) := by decide +kernel
theorem dX11_init_118 : decode cX11_init 118 = .ok (.aload_n 0, 1) := by decide +kernel
theorem dX11_init_119 : decode cX11_init 119 = .ok (.sipush 8000, 3) := by decide +kernel
theorem dX11_init_122 : decode cX11_init 122 = .ok (.newarray .int, 2) := by decide +kernel
theorem dX11_init_124 : decode cX11_init 124 = .ok (.putfield 53, 3) := by decide +kernel
theorem dX11_init_127 : decode cX11_init 127 = .ok (.aload_n 0, 1) := by decide +kernel
theorem dX11_init_128 : decode cX11_init 128 = .ok (.sipush 8000, 3) := by decide +kernel
theorem dX11_init_131 : decode cX11_init 131 = .ok (.newarray .int, 2) := by decide +kernel
theorem dX11_init_133 : decode cX11_init 133 = .ok (.putfield 56, 3) := by decide +kernel
theorem dX11_init_136 : decode cX11_init 136 = .ok (.aload_n 0, 1) := by decide +kernel
theorem dX11_init_137 : decode cX11_init 137 = .ok (.sipush 8000, 3) := by decide +kernel
theorem dX11_init_140 : decode cX11_init 140 = .ok (.newarray .int, 2) := by decide +kernel
theorem dX11_init_142 : decode cX11_init 142 = .ok (.putfield 59, 3) := by decide +kernel
theorem dX11_init_145 : decode cX11_init 145 = .ok (.aload_n 0, 1) := by decide +kernel
theorem dX11_init_146 : decode cX11_init 146 = .ok (.sipush 8000, 3) := by decide +kernel
theorem dX11_init_149 : decode cX11_init 149 = .ok (.newarray .boolean, 2) := by decide +kernel
theorem dX11_init_151 : decode cX11_init 151 = .ok (.putfield 62, 3) := by decide +kernel
theorem dX11_init_154 : decode cX11_init 154 = .ok (.aload_n 0, 1) := by decide +kernel
theorem dX11_init_155 : decode cX11_init 155 = .ok (.sipush 8000, 3) := by decide +kernel
theorem dX11_init_158 : decode cX11_init 158 = .ok (.newarray .boolean, 2) := by decide +kernel
theorem dX11_init_160 : decode cX11_init 160 = .ok (.putfield 65, 3) := by decide +kernel
theorem dX11_init_163 : decode cX11_init 163 = .ok (.aload_n 0, 1) := by decide +kernel
theorem dX11_init_164 : decode cX11_init 164 = .ok (.sipush 8000, 3) := by decide +kernel
theorem dX11_init_167 : decode cX11_init 167 = .ok (.newarray .int, 2) := by decide +kernel
theorem dX11_init_169 : decode cX11_init 169 = .ok (.putfield 68, 3) := by decide +kernel
theorem dX11_init_172 : decode cX11_init 172 = .ok (.aload_n 0, 1) := by decide +kernel
theorem dX11_init_173 : decode cX11_init 173 = .ok (.sipush 8000, 3) := by decide +kernel
theorem dX11_init_176 : decode cX11_init 176 = .ok (.newarray .int, 2) := by decide +kernel
theorem dX11_init_178 : decode cX11_init 178 = .ok (.putfield 71, 3) := by decide +kernel
theorem dX11_init_181 : decode cX11_init 181 = .ok (.aload_n 0, 1) := by decide +kernel
theorem dX11_init_182 : decode cX11_init 182 = .ok (.sipush 400, 3) := by decide +kernel
theorem dX11_init_185 : decode cX11_init 185 = .ok (.newarray .int, 2) := by decide +kernel
theorem dX11_init_187 : decode cX11_init 187 = .ok (.putfield 74, 3) := by decide +kernel
theorem dX11_init_190 : decode cX11_init 190 = .ok (.aload_n 0, 1) := by decide +kernel
theorem dX11_init_191 : decode cX11_init 191 = .ok (.bipush 20, 2) := by decide +kernel
theorem dX11_init_193 : decode cX11_init 193 = .ok (.newarray .int, 2) := by decide +kernel
theorem dX11_init_195 : decode cX11_init 195 = .ok (.putfield 77, 3) := by decide +kernel
theorem dX11_init_198 : decode cX11_init 198 = .ok (.aload_n 0, 1) := by decide +kernel
theorem dX11_init_199 : decode cX11_init 199 = .ok (.ldc 80, 2) := by decide +kernel
theorem dX11_init_201 : decode cX11_init 201 = .ok (.newarray .int, 2) := by decide +kernel
theorem dX11_init_203 : decode cX11_init 203 = .ok (.putfield 81, 3) := by decide +kernel
theorem dX11_init_206 : decode cX11_init 206 = .ok (.aload_n 0, 1) := by decide +kernel
theorem dX11_init_207 : decode cX11_init 207 = .ok (.ldc 80, 2) := by decide +kernel
theorem dX11_init_209 : decode cX11_init 209 = .ok (.newarray .int, 2) := by decide +kernel
theorem dX11_init_211 : decode cX11_init 211 = .ok (.putfield 84, 3) := by decide +kernel
theorem dX11_init_214 : decode cX11_init 214 = .ok (.aload_n 0, 1) := by decide +kernel
theorem dX11_init_215 : decode cX11_init 215 = .ok (.ldc 80, 2) := by decide +kernel
theorem dX11_init_217 : decode cX11_init 217 = .ok (.newarray .int, 2) := by decide +kernel
theorem dX11_init_219 : decode cX11_init 219 = .ok (.putfield 87, 3) := by decide +kernel
theorem dX11_init_222 : decode cX11_init 222 = .ok (.aload_n 0, 1) := by decide +kernel
theorem dX11_init_223 : decode cX11_init 223 = .ok (.ldc 80, 2) := by decide +kernel
theorem dX11_init_225 : decode cX11_init 225 = .ok (.newarray .boolean, 2) := by decide +kernel
theorem dX11_init_227 : decode cX11_init 227 = .ok (.putfield 90, 3) := by decide +kernel
theorem dX11_init_230 : decode cX11_init 230 = .ok (.aload_n 0, 1) := by decide +kernel
theorem dX11_init_231 : decode cX11_init 231 = .ok (.ldc 80, 2) := by decide +kernel
theorem dX11_init_233 : decode cX11_init 233 = .ok (.newarray .int, 2) := by decide +kernel
theorem dX11_init_235 : decode cX11_init 235 = .ok (.putfield 93, 3) := by decide +kernel
theorem dX11_init_238 : decode cX11_init 238 = .ok (.aload_n 0, 1) := by decide +kernel
theorem dX11_init_239 : decode cX11_init 239 = .ok (.ldc 80, 2) := by decide +kernel
theorem dX11_init_241 : decode cX11_init 241 = .ok (.newarray .int, 2) := by decide +kernel
theorem dX11_init_243 : decode cX11_init 243 = .ok (.putfield 96, 3) := by decide +kernel
theorem dX11_init_246 : decode cX11_init 246 = .ok (.aload_n 0, 1) := by decide +kernel
theorem dX11_init_247 : decode cX11_init 247 = .ok (.ldc 80, 2) := by decide +kernel
theorem dX11_init_249 : decode cX11_init 249 = .ok (.newarray .int, 2) := by decide +kernel
theorem dX11_init_251 : decode cX11_init 251 = .ok (.putfield 99, 3) := by decide +kernel
theorem dX11_init_254 : decode cX11_init 254 = .ok (.aload_n 0, 1) := by decide +kernel
theorem dX11_init_255 : decode cX11_init 255 = .ok (.ldc 80, 2) := by decide +kernel
theorem dX11_init_257 : decode cX11_init 257 = .ok (.newarray .int, 2) := by decide +kernel
theorem dX11_init_259 : decode cX11_init 259 = .ok (.putfield 102, 3) := by decide +kernel
theorem dX11_init_262 : decode cX11_init 262 = .ok (.aload_n 0, 1) := by decide +kernel
theorem dX11_init_263 : decode cX11_init 263 = .ok (.ldc 80, 2) := by decide +kernel
theorem dX11_init_265 : decode cX11_init 265 = .ok (.newarray .int, 2) := by decide +kernel
theorem dX11_init_267 : decode cX11_init 267 = .ok (.putfield 105, 3) := by decide +kernel
theorem dX11_init_270 : decode cX11_init 270 = .ok (.aload_n 0, 1) := by decide +kernel
theorem dX11_init_271 : decode cX11_init 271 = .ok (.ldc 80, 2) := by decide +kernel
theorem dX11_init_273 : decode cX11_init 273 = .ok (.newarray .int, 2) := by decide +kernel
theorem dX11_init_275 : decode cX11_init 275 = .ok (.putfield 108, 3) := by decide +kernel
theorem dX11_init_278 : decode cX11_init 278 = .ok (.aload_n 0, 1) := by decide +kernel
theorem dX11_init_279 : decode cX11_init 279 = .ok (.ldc 80, 2) := by decide +kernel
theorem dX11_init_281 : decode cX11_init 281 = .ok (.newarray .int, 2) := by decide +kernel
theorem dX11_init_283 : decode cX11_init 283 = .ok (.putfield 111, 3) := by decide +kernel
theorem dX11_init_286 : decode cX11_init 286 = .ok (.aload_n 0, 1) := by decide +kernel
theorem dX11_init_287 : decode cX11_init 287 = .ok (.ldc 80, 2) := by decide +kernel
theorem dX11_init_289 : decode cX11_init 289 = .ok (.newarray .int, 2) := by decide +kernel
theorem dX11_init_291 : decode cX11_init 291 = .ok (.putfield 114, 3) := by decide +kernel
theorem dX11_init_294 : decode cX11_init 294 = .ok (.aload_n 0, 1) := by decide +kernel
theorem dX11_init_295 : decode cX11_init 295 = .ok (.ldc 80, 2) := by decide +kernel
theorem dX11_init_297 : decode cX11_init 297 = .ok (.newarray .boolean, 2) := by decide +kernel
theorem dX11_init_299 : decode cX11_init 299 = .ok (.putfield 117, 3) := by decide +kernel
theorem dX11_init_302 : decode cX11_init 302 = .ok (.aload_n 0, 1) := by decide +kernel
theorem dX11_init_303 : decode cX11_init 303 = .ok (.ldc 120, 2) := by decide +kernel
theorem dX11_init_305 : decode cX11_init 305 = .ok (.newarray .int, 2) := by decide +kernel
theorem dX11_init_307 : decode cX11_init 307 = .ok (.putfield 121, 3) := by decide +kernel
theorem dX11_init_310 : decode cX11_init 310 = .ok (.aload_n 0, 1) := by decide +kernel
theorem dX11_init_311 : decode cX11_init 311 = .ok (.ldc 120, 2) := by decide +kernel
theorem dX11_init_313 : decode cX11_init 313 = .ok (.newarray .int, 2) := by decide +kernel
theorem dX11_init_315 : decode cX11_init 315 = .ok (.putfield 124, 3) := by decide +kernel
theorem dX11_init_318 : decode cX11_init 318 = .ok (.aload_n 0, 1) := by decide +kernel
theorem dX11_init_319 : decode cX11_init 319 = .ok (.ldc 127, 2) := by decide +kernel
theorem dX11_init_321 : decode cX11_init 321 = .ok (.newarray .int, 2) := by decide +kernel
theorem dX11_init_323 : decode cX11_init 323 = .ok (.putfield 128, 3) := by decide +kernel
theorem dX11_init_326 : decode cX11_init 326 = .ok (.aload_n 0, 1) := by decide +kernel
theorem dX11_init_327 : decode cX11_init 327 = .ok (.ldc 127, 2) := by decide +kernel
theorem dX11_init_329 : decode cX11_init 329 = .ok (.newarray .int, 2) := by decide +kernel
theorem dX11_init_331 : decode cX11_init 331 = .ok (.putfield 131, 3) := by decide +kernel
theorem dX11_init_334 : decode cX11_init 334 = .ok (.aload_n 0, 1) := by decide +kernel
theorem dX11_init_335 : decode cX11_init 335 = .ok (.ldc 127, 2) := by decide +kernel
theorem dX11_init_337 : decode cX11_init 337 = .ok (.newarray .int, 2) := by decide +kernel
theorem dX11_init_339 : decode cX11_init 339 = .ok (.putfield 134, 3) := by decide +kernel
theorem dX11_init_342 : decode cX11_init 342 = .ok (.aload_n 0, 1) := by decide +kernel
theorem dX11_init_343 : decode cX11_init 343 = .ok (.sipush 8192, 3) := by decide +kernel
theorem dX11_init_346 : decode cX11_init 346 = .ok (.newarray .int, 2) := by decide +kernel
theorem dX11_init_348 : decode cX11_init 348 = .ok (.putfield 137, 3) := by decide +kernel
theorem dX11_init_351 : decode cX11_init 351 = .ok (.aload_n 0, 1) := by decide +kernel
theorem dX11_init_352 : decode cX11_init 352 = .ok (.bipush 31, 2) := by decide +kernel
theorem dX11_init_354 : decode cX11_init 354 = .ok (.newarray .int, 2) := by decide +kernel
theorem dX11_init_356 : decode cX11_init 356 = .ok (.putfield 140, 3) := by decide +kernel
theorem dX11_init_359 : decode cX11_init 359 = .ok (.aload_n 0, 1) := by decide +kernel
theorem dX11_init_360 : decode cX11_init 360 = .ok (.bipush 61, 2) := by decide +kernel
theorem dX11_init_362 : decode cX11_init 362 = .ok (.newarray .int, 2) := by decide +kernel
theorem dX11_init_364 : decode cX11_init 364 = .ok (.putfield 143, 3) := by decide +kernel
theorem dX11_init_367 : decode cX11_init 367 = .ok (.aload_n 0, 1) := by decide +kernel
theorem dX11_init_368 : decode cX11_init 368 = .ok (.bipush 32, 2) := by decide +kernel
theorem dX11_init_370 : decode cX11_init 370 = .ok (.newarray .int, 2) := by decide +kernel
theorem dX11_init_372 : decode cX11_init 372 = .ok (.putfield 146, 3) := by decide +kernel
theorem dX11_init_375 : decode cX11_init 375 = .ok (.aload_n 0, 1) := by decide +kernel
theorem dX11_init_376 : decode cX11_init 376 = .ok (.bipush 32, 2) := by decide +kernel
theorem dX11_init_378 : decode cX11_init 378 = .ok (.newarray .int, 2) := by decide +kernel
theorem dX11_init_380 : decode cX11_init 380 = .ok (.putfield 149, 3) := by decide +kernel
theorem dX11_init_383 : decode cX11_init 383 = .ok (.aload_n 0, 1) := by decide +kernel
theorem dX11_init_384 : decode cX11_init 384 = .ok (.bipush 32, 2) := by decide +kernel
theorem dX11_init_386 : decode cX11_init 386 = .ok (.newarray .int, 2) := by decide +kernel
theorem dX11_init_388 : decode cX11_init 388 = .ok (.putfield 152, 3) := by decide +kernel
theorem dX11_init_391 : decode cX11_init 391 = .ok (.aload_n 0, 1) := by decide +kernel
theorem dX11_init_392 : decode cX11_init 392 = .ok (.bipush 60, 2) := by decide +kernel
theorem dX11_init_394 : decode cX11_init 394 = .ok (.newarray .int, 2) := by decide +kernel
theorem dX11_init_396 : decode cX11_init 396 = .ok (.putfield 155, 3) := by decide +kernel
theorem dX11_init_399 : decode cX11_init 399 = .ok (.aload_n 0, 1) := by decide +kernel
theorem dX11_init_400 : decode cX11_init 400 = .ok (.bipush 31, 2) := by decide +kernel
theorem dX11_init_402 : decode cX11_init 402 = .ok (.newarray .int, 2) := by decide +kernel
theorem dX11_init_404 : decode cX11_init 404 = .ok (.putfield 158, 3) := by decide +kernel
theorem dX11_init_407 : decode cX11_init 407 = .ok (.aload_n 0, 1) := by decide +kernel
theorem dX11_init_408 : decode cX11_init 408 = .ok (.sipush 2000, 3) := by decide +kernel
theorem dX11_init_411 : decode cX11_init 411 = .ok (.newarray .int, 2) := by decide +kernel
theorem dX11_init_413 : decode cX11_init 413 = .ok (.putfield 161, 3) := by decide +kernel
theorem dX11_init_416 : decode cX11_init 416 = .ok (.aload_n 0, 1) := by decide +kernel
theorem dX11_init_417 : decode cX11_init 417 = .ok (.sipush 2000, 3) := by decide +kernel
theorem dX11_init_420 : decode cX11_init 420 = .ok (.newarray .int, 2) := by decide +kernel
theorem dX11_init_422 : decode cX11_init 422 = .ok (.putfield 164, 3) := by decide +kernel
theorem dX11_init_425 : decode cX11_init 425 = .ok (.aload_n 0, 1) := by decide +kernel
theorem dX11_init_426 : decode cX11_init 426 = .ok (.sipush 2000, 3) := by decide +kernel
theorem dX11_init_429 : decode cX11_init 429 = .ok (.newarray .int, 2) := by decide +kernel
theorem dX11_init_431 : decode cX11_init 431 = .ok (.putfield 167, 3) := by decide +kernel
theorem dX11_init_434 : decode cX11_init 434 = .ok (.aload_n 0, 1) := by decide +kernel
theorem dX11_init_435 : decode cX11_init 435 = .ok (.sipush 8000, 3) := by decide +kernel
theorem dX11_init_438 : decode cX11_init 438 = .ok (.newarray .int, 2) := by decide +kernel
theorem dX11_init_440 : decode cX11_init 440 = .ok (.putfield 170, 3) := by decide +kernel
theorem dX11_init_443 : decode cX11_init 443 = .ok (.aload_n 0, 1) := by decide +kernel
theorem dX11_init_444 : decode cX11_init 444 = .ok (.bipush 32, 2) := by decide +kernel
theorem dX11_init_446 : decode cX11_init 446 = .ok (.newarray .int, 2) := by decide +kernel
theorem dX11_init_448 : decode cX11_init 448 = .ok (.putfield 173, 3) := by decide +kernel
theorem dX11_init_451 : decode cX11_init 451 = .ok (.aload_n 0, 1) := by decide +kernel
theorem dX11_init_452 : decode cX11_init 452 = .ok (.bipush 31, 2) := by decide +kernel
theorem dX11_init_454 : decode cX11_init 454 = .ok (.newarray .int, 2) := by decide +kernel
theorem dX11_init_456 : decode cX11_init 456 = .ok (.putfield 176, 3) := by decide +kernel
theorem dX11_init_459 : decode cX11_init 459 = .ok (.aload_n 0, 1) := by decide +kernel
theorem dX11_init_460 : decode cX11_init 460 = .ok (.bipush 33, 2) := by decide +kernel
theorem dX11_init_462 : decode cX11_init 462 = .ok (.newarray .int, 2) := by decide +kernel
theorem dX11_init_464 : decode cX11_init 464 = .ok (.putfield 179, 3) := by decide +kernel
theorem dX11_init_467 : decode cX11_init 467 = .ok (.aload_n 0, 1) := by decide +kernel
theorem dX11_init_468 : decode cX11_init 468 = .ok (.bipush 33, 2) := by decide +kernel
theorem dX11_init_470 : decode cX11_init 470 = .ok (.newarray .int, 2) := by decide +kernel
theorem dX11_init_472 : decode cX11_init 472 = .ok (.putfield 182, 3) := by decide +kernel
theorem dX11_init_475 : decode cX11_init 475 = .ok (.aload_n 0, 1) := by decide +kernel
theorem dX11_init_476 : decode cX11_init 476 = .ok (.bipush 33, 2) := by decide +kernel
theorem dX11_init_478 : decode cX11_init 478 = .ok (.newarray .int, 2) := by decide +kernel
theorem dX11_init_480 : decode cX11_init 480 = .ok (.putfield 185, 3) := by decide +kernel
theorem dX11_init_483 : decode cX11_init 483 = .ok (.aload_n 0, 1) := by decide +kernel
theorem dX11_init_484 : decode cX11_init 484 = .ok (.iconst 0, 1) := by decide +kernel
theorem dX11_init_485 : decode cX11_init 485 = .ok (.putfield 188, 3) := by decide +kernel
theorem dX11_init_488 : decode cX11_init 488 = .ok (.return_, 1) := by decide +kernel
theorem dX11_thrown_0 : decode cX11_thrown 0 = .ok (.aload_n 0, 1) := by decide +kernel
theorem dX11_thrown_1 : decode cX11_thrown 1 = .ok (.getfield 192, 3) := by decide +kernel
theorem dX11_thrown_4 : decode cX11_thrown 4 = .ok (.ireturn, 1) := by decide +kernel
theorem dX11_in_0 : decode cX11_in 0 = .ok (.iload_n 0, 1) := by decide +kernel
theorem dX11_in_1 : decode cX11_in 1 = .ok (.iload_n 1, 1) := by decide +kernel
theorem dX11_in_2 : decode cX11_in 2 = .ok (.if_icmp .lt 12, 3) := by decide +kernel
theorem dX11_in_5 : decode cX11_in 5 = .ok (.iload_n 0, 1) := by decide +kernel
theorem dX11_in_6 : decode cX11_in 6 = .ok (.iload_n 2, 1) := by decide +kernel
theorem dX11_in_7 : decode cX11_in 7 = .ok (.if_icmp .gt 7, 3) := by decide +kernel
theorem dX11_in_10 : decode cX11_in 10 = .ok (.iconst 1, 1) := by decide +kernel
theorem dX11_in_11 : decode cX11_in 11 = .ok (.goto 4, 3) := by decide +kernel
theorem dX11_in_14 : decode cX11_in 14 = .ok (.iconst 0, 1) := by decide +kernel
theorem dX11_in_15 : decode cX11_in 15 = .ok (.ireturn, 1) := by decide +kernel
set_option maxRecDepth 20000 in
theorem ggX11_isNode_X11_in : GoodIn wsX11_isNode wsX11_in := goodIn_r _ [5] (by decide +kernel) (by decide +kernel)
set_option maxRecDepth 20000 in
theorem gX11_isNode_X11_in : GoodIn wsX11_isNode (va_wsS RX11 195 yX11_in wsX11_in) := goodIn_app (goodIn_of _ (by decide +kernel)) ggX11_isNode_X11_in
theorem dX11_isNode_0 : decode cX11_isNode 0 = .ok (.iload_n 1, 1) := by decide +kernel
theorem dX11_isNode_1 : decode cX11_isNode 1 = .ok (.iconst 0, 1) := by decide +kernel
theorem dX11_isNode_2 : decode cX11_isNode 2 = .ok (.aload_n 0, 1) := by decide +kernel
theorem dX11_isNode_3 : decode cX11_isNode 3 = .ok (.getfield 188, 3) := by decide +kernel
theorem dX11_isNode_6 : decode cX11_isNode 6 = .ok (.iconst 1, 1) := by decide +kernel
theorem dX11_isNode_7 : decode cX11_isNode 7 = .ok (.isub, 1) := by decide +kernel
theorem dX11_isNode_8 : decode cX11_isNode 8 = .ok (.invokestatic 195, 3) := by decide +kernel
theorem dX11_isNode_11 : decode cX11_isNode 11 = .ok (.ireturn, 1) := by decide +kernel
theorem dX11_leaf_0 : decode cX11_leaf 0 = .ok (.aload_n 0, 1) := by decide +kernel
theorem dX11_leaf_1 : decode cX11_leaf 1 = .ok (.getfield 188, 3) := by decide +kernel
theorem dX11_leaf_4 : decode cX11_leaf 4 = .ok (.istore 4, 2) := by decide +kernel
theorem dX11_leaf_6 : decode cX11_leaf 6 = .ok (.aload_n 0, 1) := by decide +kernel
theorem dX11_leaf_7 : decode cX11_leaf 7 = .ok (.getfield 7, 3) := by decide +kernel
theorem dX11_leaf_10 : decode cX11_leaf 10 = .ok (.iload 4, 2) := by decide +kernel
theorem dX11_leaf_12 : decode cX11_leaf 12 = .ok (.iload_n 1, 1) := by decide +kernel
theorem dX11_leaf_13 : decode cX11_leaf 13 = .ok (.iastore, 1) := by decide +kernel
theorem dX11_leaf_14 : decode cX11_leaf 14 = .ok (.aload_n 0, 1) := by decide +kernel
theorem dX11_leaf_15 : decode cX11_leaf 15 = .ok (.getfield 13, 3) := by decide +kernel
theorem dX11_leaf_18 : decode cX11_leaf 18 = .ok (.iload 4, 2) := by decide +kernel
theorem dX11_leaf_20 : decode cX11_leaf 20 = .ok (.iload_n 2, 1) := by decide +kernel
theorem dX11_leaf_21 : decode cX11_leaf 21 = .ok (.iastore, 1) := by decide +kernel
theorem dX11_leaf_22 : decode cX11_leaf 22 = .ok (.aload_n 0, 1) := by decide +kernel
theorem dX11_leaf_23 : decode cX11_leaf 23 = .ok (.getfield 16, 3) := by decide +kernel
theorem dX11_leaf_26 : decode cX11_leaf 26 = .ok (.iload 4, 2) := by decide +kernel
theorem dX11_leaf_28 : decode cX11_leaf 28 = .ok (.iload_n 3, 1) := by decide +kernel
theorem dX11_leaf_29 : decode cX11_leaf 29 = .ok (.iastore, 1) := by decide +kernel
theorem dX11_leaf_30 : decode cX11_leaf 30 = .ok (.aload_n 0, 1) := by decide +kernel
theorem dX11_leaf_31 : decode cX11_leaf 31 = .ok (.getfield 19, 3) := by decide +kernel
theorem dX11_leaf_34 : decode cX11_leaf 34 = .ok (.iload 4, 2) := by decide +kernel
theorem dX11_leaf_36 : decode cX11_leaf 36 = .ok (.iconst (-1), 1) := by decide +kernel
theorem dX11_leaf_37 : decode cX11_leaf 37 = .ok (.iastore, 1) := by decide +kernel
theorem dX11_leaf_38 : decode cX11_leaf 38 = .ok (.aload_n 0, 1) := by decide +kernel
theorem dX11_leaf_39 : decode cX11_leaf 39 = .ok (.getfield 22, 3) := by decide +kernel
theorem dX11_leaf_42 : decode cX11_leaf 42 = .ok (.iload 4, 2) := by decide +kernel
theorem dX11_leaf_44 : decode cX11_leaf 44 = .ok (.iconst (-1), 1) := by decide +kernel
theorem dX11_leaf_45 : decode cX11_leaf 45 = .ok (.iastore, 1) := by decide +kernel
theorem dX11_leaf_46 : decode cX11_leaf 46 = .ok (.aload_n 0, 1) := by decide +kernel
theorem dX11_leaf_47 : decode cX11_leaf 47 = .ok (.getfield 25, 3) := by decide +kernel
theorem dX11_leaf_50 : decode cX11_leaf 50 = .ok (.iload 4, 2) := by decide +kernel
theorem dX11_leaf_52 : decode cX11_leaf 52 = .ok (.iconst 1, 1) := by decide +kernel
theorem dX11_leaf_53 : decode cX11_leaf 53 = .ok (.iastore, 1) := by decide +kernel
theorem dX11_leaf_54 : decode cX11_leaf 54 = .ok (.aload_n 0, 1) := by decide +kernel
theorem dX11_leaf_55 : decode cX11_leaf 55 = .ok (.getfield 28, 3) := by decide +kernel
theorem dX11_leaf_58 : decode cX11_leaf 58 = .ok (.iload 4, 2) := by decide +kernel
theorem dX11_leaf_60 : decode cX11_leaf 60 = .ok (.iconst 0, 1) := by decide +kernel
theorem dX11_leaf_61 : decode cX11_leaf 61 = .ok (.iastore, 1) := by decide +kernel
theorem dX11_leaf_62 : decode cX11_leaf 62 = .ok (.aload_n 0, 1) := by decide +kernel
theorem dX11_leaf_63 : decode cX11_leaf 63 = .ok (.getfield 31, 3) := by decide +kernel
theorem dX11_leaf_66 : decode cX11_leaf 66 = .ok (.iload 4, 2) := by decide +kernel
theorem dX11_leaf_68 : decode cX11_leaf 68 = .ok (.iconst 0, 1) := by decide +kernel
theorem dX11_leaf_69 : decode cX11_leaf 69 = .ok (.iastore, 1) := by decide +kernel
theorem dX11_leaf_70 : decode cX11_leaf 70 = .ok (.aload_n 0, 1) := by decide +kernel
theorem dX11_leaf_71 : decode cX11_leaf 71 = .ok (.getfield 34, 3) := by decide +kernel
theorem dX11_leaf_74 : decode cX11_leaf 74 = .ok (.iload 4, 2) := by decide +kernel
theorem dX11_leaf_76 : decode cX11_leaf 76 = .ok (.iconst 1, 1) := by decide +kernel
theorem dX11_leaf_77 : decode cX11_leaf 77 = .ok (.iastore, 1) := by decide +kernel
theorem dX11_leaf_78 : decode cX11_leaf 78 = .ok (.aload_n 0, 1) := by decide +kernel
theorem dX11_leaf_79 : decode cX11_leaf 79 = .ok (.getfield 37, 3) := by decide +kernel
theorem dX11_leaf_82 : decode cX11_leaf 82 = .ok (.iload 4, 2) := by decide +kernel
theorem dX11_leaf_84 : decode cX11_leaf 84 = .ok (.iconst 1, 1) := by decide +kernel
theorem dX11_leaf_85 : decode cX11_leaf 85 = .ok (.iastore, 1) := by decide +kernel
theorem dX11_leaf_86 : decode cX11_leaf 86 = .ok (.aload_n 0, 1) := by decide +kernel
theorem dX11_leaf_87 : decode cX11_leaf 87 = .ok (.getfield 40, 3) := by decide +kernel
theorem dX11_leaf_90 : decode cX11_leaf 90 = .ok (.iload 4, 2) := by decide +kernel
theorem dX11_leaf_92 : decode cX11_leaf 92 = .ok (.iload_n 1, 1) := by decide +kernel
theorem dX11_leaf_93 : decode cX11_leaf 93 = .ok (.ifCond .ne 7, 3) := by decide +kernel
theorem dX11_leaf_96 : decode cX11_leaf 96 = .ok (.iload_n 3, 1) := by decide +kernel
theorem dX11_leaf_97 : decode cX11_leaf 97 = .ok (.goto 13, 3) := by decide +kernel
theorem dX11_leaf_100 : decode cX11_leaf 100 = .ok (.iload_n 1, 1) := by decide +kernel
theorem dX11_leaf_101 : decode cX11_leaf 101 = .ok (.iconst 2, 1) := by decide +kernel
theorem dX11_leaf_102 : decode cX11_leaf 102 = .ok (.if_icmp .ne 7, 3) := by decide +kernel
theorem dX11_leaf_105 : decode cX11_leaf 105 = .ok (.iconst 1, 1) := by decide +kernel
theorem dX11_leaf_106 : decode cX11_leaf 106 = .ok (.goto 4, 3) := by decide +kernel
theorem dX11_leaf_109 : decode cX11_leaf 109 = .ok (.iconst 0, 1) := by decide +kernel
theorem dX11_leaf_110 : decode cX11_leaf 110 = .ok (.iastore, 1) := by decide +kernel
theorem dX11_leaf_111 : decode cX11_leaf 111 = .ok (.aload_n 0, 1) := by decide +kernel
theorem dX11_leaf_112 : decode cX11_leaf 112 = .ok (.getfield 43, 3) := by decide +kernel
theorem dX11_leaf_115 : decode cX11_leaf 115 = .ok (.iload 4, 2) := by decide +kernel
theorem dX11_leaf_117 : decode cX11_leaf 117 = .ok (.iload_n 1, 1) := by decide +kernel
theorem dX11_leaf_118 : decode cX11_leaf 118 = .ok (.iconst 1, 1) := by decide +kernel
theorem dX11_leaf_119 : decode cX11_leaf 119 = .ok (.if_icmp .eq 13, 3) := by decide +kernel
theorem dX11_leaf_122 : decode cX11_leaf 122 = .ok (.iload_n 1, 1) := by decide +kernel
theorem dX11_leaf_123 : decode cX11_leaf 123 = .ok (.iconst 4, 1) := by decide +kernel
theorem dX11_leaf_124 : decode cX11_leaf 124 = .ok (.if_icmp .eq 8, 3) := by decide +kernel
theorem dX11_leaf_127 : decode cX11_leaf 127 = .ok (.iload_n 1, 1) := by decide +kernel
theorem dX11_leaf_128 : decode cX11_leaf 128 = .ok (.iconst 5, 1) := by decide +kernel
theorem dX11_leaf_129 : decode cX11_leaf 129 = .ok (.if_icmp .ne 7, 3) := by decide +kernel
theorem dX11_leaf_132 : decode cX11_leaf 132 = .ok (.iconst 1, 1) := by decide +kernel
theorem dX11_leaf_133 : decode cX11_leaf 133 = .ok (.goto 4, 3) := by decide +kernel
theorem dX11_leaf_136 : decode cX11_leaf 136 = .ok (.iconst 0, 1) := by decide +kernel
theorem dX11_leaf_137 : decode cX11_leaf 137 = .ok (.bastore, 1) := by decide +kernel
theorem dX11_leaf_138 : decode cX11_leaf 138 = .ok (.aload_n 0, 1) := by decide +kernel
theorem dX11_leaf_139 : decode cX11_leaf 139 = .ok (.dup, 1) := by decide +kernel
theorem dX11_leaf_140 : decode cX11_leaf 140 = .ok (.getfield 188, 3) := by decide +kernel
theorem dX11_leaf_143 : decode cX11_leaf 143 = .ok (.iconst 1, 1) := by decide +kernel
theorem dX11_leaf_144 : decode cX11_leaf 144 = .ok (.iadd, 1) := by decide +kernel
theorem dX11_leaf_145 : decode cX11_leaf 145 = .ok (.putfield 188, 3) := by decide +kernel
theorem dX11_leaf_148 : decode cX11_leaf 148 = .ok (.iload 4, 2) := by decide +kernel
theorem dX11_leaf_150 : decode cX11_leaf 150 = .ok (.ireturn, 1) := by decide +kernel
set_option maxRecDepth 20000 in
theorem ggX11_text_X11_in : GoodIn wsX11_text wsX11_in := goodIn_r _ [6] (by decide +kernel) (by decide +kernel)
set_option maxRecDepth 20000 in
theorem gX11_text_X11_in : GoodIn wsX11_text (va_wsS RX11 195 yX11_in wsX11_in) := goodIn_app (goodIn_of _ (by decide +kernel)) ggX11_text_X11_in
set_option maxRecDepth 20000 in
theorem ggX11_text_X11_leaf : GoodIn wsX11_text wsX11_leaf := goodIn_ca (goodIn_r _ [10, 1, 11, 12, 13, 14, 15, 16, 17, 18, 19, 20, 21, 22, 23, 24, 25, 26, 27, 28, 29, 30, 31, 32, 33, 34, 35, 36, 37, 38, 39, 40, 41, 42, 43, 44, 45, 46, 47, 48, 49, 50, 51, 52, 53, 54, 55, 56, 57, 58, 59, 60, 61, 62, 63, 64, 65, 66, 67, 68, 69, 70, 71, 72, 73, 74, 75, 76, 77, 78, 79, 80, 81, 82, 83, 84, 85, 86, 87, 88, 89, 90, 91, 92, 93, 94, 95, 96, 97, 98, 99, 100, 101, 102, 103, 104, 105, 106, 107, 108, 109] (by decide +kernel) (by decide +kernel)) (goodIn_sub (fun _ h => List.mem_cons_of_mem _ (List.mem_append_right _ h)) (by decide +kernel))
set_option maxRecDepth 20000 in
theorem gX11_text_X11_leaf : GoodIn wsX11_text (wsV RX11 214 RX11 yX11_leaf wsX11_leaf) := goodIn_app (goodIn_of _ (by decide +kernel)) ggX11_text_X11_leaf
theorem dX11_text_0 : decode cX11_text 0 = .ok (.aload_n 0, 1) := by decide +kernel
theorem dX11_text_1 : decode cX11_text 1 = .ok (.iload_n 1, 1) := by decide +kernel
theorem dX11_text_2 : decode cX11_text 2 = .ok (.iconst 0, 1) := by decide +kernel
theorem dX11_text_3 : decode cX11_text 3 = .ok (.bipush 25, 2) := by decide +kernel
theorem dX11_text_5 : decode cX11_text 5 = .ok (.invokestatic 195, 3) := by decide +kernel
theorem dX11_text_8 : decode cX11_text 8 = .ok (.ifCond .eq 13, 3) := by decide +kernel
theorem dX11_text_11 : decode cX11_text 11 = .ok (.iload_n 2, 1) := by decide +kernel
theorem dX11_text_12 : decode cX11_text 12 = .ok (.iconst 1, 1) := by decide +kernel
theorem dX11_text_13 : decode cX11_text 13 = .ok (.bipush 20, 2) := by decide +kernel
theorem dX11_text_15 : decode cX11_text 15 = .ok (.invokestatic 195, 3) := by decide +kernel
theorem dX11_text_18 : decode cX11_text 18 = .ok (.ifCond .ne 7, 3) := by decide +kernel
theorem dX11_text_21 : decode cX11_text 21 = .ok (.iconst 1, 1) := by decide +kernel
theorem dX11_text_22 : decode cX11_text 22 = .ok (.goto 17, 3) := by decide +kernel
theorem dX11_text_25 : decode cX11_text 25 = .ok (.aload_n 0, 1) := by decide +kernel
theorem dX11_text_26 : decode cX11_text 26 = .ok (.getfield 188, 3) := by decide +kernel
theorem dX11_text_29 : decode cX11_text 29 = .ok (.bipush 60, 2) := by decide +kernel
theorem dX11_text_31 : decode cX11_text 31 = .ok (.if_icmp .ne 7, 3) := by decide +kernel
theorem dX11_text_34 : decode cX11_text 34 = .ok (.iconst 2, 1) := by decide +kernel
theorem dX11_text_35 : decode cX11_text 35 = .ok (.goto 4, 3) := by decide +kernel
theorem dX11_text_38 : decode cX11_text 38 = .ok (.iconst 0, 1) := by decide +kernel
theorem dX11_text_39 : decode cX11_text 39 = .ok (.putfield 192, 3) := by decide +kernel
theorem dX11_text_42 : decode cX11_text 42 = .ok (.aload_n 0, 1) := by decide +kernel
theorem dX11_text_43 : decode cX11_text 43 = .ok (.getfield 192, 3) := by decide +kernel
theorem dX11_text_46 : decode cX11_text 46 = .ok (.ifCond .ne 13, 3) := by decide +kernel
theorem dX11_text_49 : decode cX11_text 49 = .ok (.aload_n 0, 1) := by decide +kernel
theorem dX11_text_50 : decode cX11_text 50 = .ok (.iconst 0, 1) := by decide +kernel
theorem dX11_text_51 : decode cX11_text 51 = .ok (.iload_n 1, 1) := by decide +kernel
theorem dX11_text_52 : decode cX11_text 52 = .ok (.iload_n 2, 1) := by decide +kernel
theorem dX11_text_53 : decode cX11_text 53 = .ok (.invokevirtual 214, 3) := by decide +kernel
theorem dX11_text_56 : decode cX11_text 56 = .ok (.goto 4, 3) := by decide +kernel
theorem dX11_text_59 : decode cX11_text 59 = .ok (.iconst 0, 1) := by decide +kernel
theorem dX11_text_60 : decode cX11_text 60 = .ok (.ireturn, 1) := by decide +kernel
set_option maxRecDepth 20000 in
theorem ggX11_remark_X11_in : GoodIn wsX11_remark wsX11_in := goodIn_r _ [6] (by decide +kernel) (by decide +kernel)
set_option maxRecDepth 20000 in
theorem gX11_remark_X11_in : GoodIn wsX11_remark (va_wsS RX11 195 yX11_in wsX11_in) := goodIn_app (goodIn_of _ (by decide +kernel)) ggX11_remark_X11_in
set_option maxRecDepth 20000 in
theorem ggX11_remark_X11_leaf : GoodIn wsX11_remark wsX11_leaf := goodIn_ca (goodIn_r _ [10, 1, 11, 12, 13, 14, 15, 16, 17, 18, 19, 20, 21, 22, 23, 24, 25, 26, 27, 28, 29, 30, 31, 32, 33, 34, 35, 36, 37, 38, 39, 40, 41, 42, 43, 44, 45, 46, 47, 48, 49, 50, 51, 52, 53, 54, 55, 56, 57, 58, 59, 60, 61, 62, 63, 64, 65, 66, 67, 68, 69, 70, 71, 72, 73, 74, 75, 76, 77, 78, 79, 80, 81, 82, 83, 84, 85, 86, 87, 88, 89, 90, 91, 92, 93, 94, 95, 96, 97, 98, 99, 100, 101, 102, 103, 104, 105, 106, 107, 108, 109] (by decide +kernel) (by decide +kernel)) (goodIn_sub (fun _ h => List.mem_cons_of_mem _ (List.mem_append_right _ h)) (by decide +kernel))
set_option maxRecDepth 20000 in
theorem gX11_remark_X11_leaf : GoodIn wsX11_remark (wsV RX11 214 RX11 yX11_leaf wsX11_leaf) := goodIn_app (goodIn_of _ (by decide +kernel)) ggX11_remark_X11_leaf
theorem dX11_remark_0 : decode cX11_remark 0 = .ok (.aload_n 0, 1) := by decide +kernel
theorem dX11_remark_1 : decode cX11_remark 1 = .ok (.iload_n 1, 1) := by decide +kernel
theorem dX11_remark_2 : decode cX11_remark 2 = .ok (.iconst 0, 1) := by decide +kernel
theorem dX11_remark_3 : decode cX11_remark 3 = .ok (.bipush 25, 2) := by decide +kernel
theorem dX11_remark_5 : decode cX11_remark 5 = .ok (.invokestatic 195, 3) := by decide +kernel
theorem dX11_remark_8 : decode cX11_remark 8 = .ok (.ifCond .eq 13, 3) := by decide +kernel
theorem dX11_remark_11 : decode cX11_remark 11 = .ok (.iload_n 2, 1) := by decide +kernel
theorem dX11_remark_12 : decode cX11_remark 12 = .ok (.iconst 1, 1) := by decide +kernel
theorem dX11_remark_13 : decode cX11_remark 13 = .ok (.bipush 20, 2) := by decide +kernel
theorem dX11_remark_15 : decode cX11_remark 15 = .ok (.invokestatic 195, 3) := by decide +kernel
theorem dX11_remark_18 : decode cX11_remark 18 = .ok (.ifCond .ne 7, 3) := by decide +kernel
theorem dX11_remark_21 : decode cX11_remark 21 = .ok (.iconst 1, 1) := by decide +kernel
theorem dX11_remark_22 : decode cX11_remark 22 = .ok (.goto 17, 3) := by decide +kernel
theorem dX11_remark_25 : decode cX11_remark 25 = .ok (.aload_n 0, 1) := by decide +kernel
theorem dX11_remark_26 : decode cX11_remark 26 = .ok (.getfield 188, 3) := by decide +kernel
theorem dX11_remark_29 : decode cX11_remark 29 = .ok (.bipush 60, 2) := by decide +kernel
theorem dX11_remark_31 : decode cX11_remark 31 = .ok (.if_icmp .ne 7, 3) := by decide +kernel
theorem dX11_remark_34 : decode cX11_remark 34 = .ok (.iconst 2, 1) := by decide +kernel
theorem dX11_remark_35 : decode cX11_remark 35 = .ok (.goto 4, 3) := by decide +kernel
theorem dX11_remark_38 : decode cX11_remark 38 = .ok (.iconst 0, 1) := by decide +kernel
theorem dX11_remark_39 : decode cX11_remark 39 = .ok (.putfield 192, 3) := by decide +kernel
theorem dX11_remark_42 : decode cX11_remark 42 = .ok (.aload_n 0, 1) := by decide +kernel
theorem dX11_remark_43 : decode cX11_remark 43 = .ok (.getfield 192, 3) := by decide +kernel
theorem dX11_remark_46 : decode cX11_remark 46 = .ok (.ifCond .ne 13, 3) := by decide +kernel
theorem dX11_remark_49 : decode cX11_remark 49 = .ok (.aload_n 0, 1) := by decide +kernel
theorem dX11_remark_50 : decode cX11_remark 50 = .ok (.iconst 1, 1) := by decide +kernel
theorem dX11_remark_51 : decode cX11_remark 51 = .ok (.iload_n 1, 1) := by decide +kernel
theorem dX11_remark_52 : decode cX11_remark 52 = .ok (.iload_n 2, 1) := by decide +kernel
theorem dX11_remark_53 : decode cX11_remark 53 = .ok (.invokevirtual 214, 3) := by decide +kernel
theorem dX11_remark_56 : decode cX11_remark 56 = .ok (.goto 4, 3) := by decide +kernel
theorem dX11_remark_59 : decode cX11_remark 59 = .ok (.iconst 0, 1) := by decide +kernel
theorem dX11_remark_60 : decode cX11_remark 60 = .ok (.ireturn, 1) := by decide +kernel
set_option maxRecDepth 20000 in
theorem ggX11_end_X11_leaf : GoodIn wsX11_end wsX11_leaf := goodIn_ca (goodIn_r _ [7, 1, 8, 9, 10, 11, 12, 13, 14, 15, 16, 17, 18, 19, 20, 21, 22, 23, 24, 25, 26, 27, 28, 29, 30, 31, 32, 33, 34, 35, 36, 37, 38, 39, 40, 41, 42, 43, 44, 45, 46, 47, 48, 49, 50, 51, 52, 53, 54, 55, 56, 57, 58, 59, 60, 61, 62, 63, 64, 65, 66, 67, 68, 69, 70, 71, 72, 73, 74, 75, 76, 77, 78, 79, 80, 81, 82, 83, 84, 85, 86, 87, 88, 89, 90, 91, 92, 93, 94, 95, 96, 97, 98, 99, 100, 101, 102, 103, 104, 105, 106] (by decide +kernel) (by decide +kernel)) (goodIn_sub (fun _ h => List.mem_cons_of_mem _ (List.mem_append_right _ h)) (by decide +kernel))
set_option maxRecDepth 20000 in
theorem gX11_end_X11_leaf : GoodIn wsX11_end (wsV RX11 214 RX11 yX11_leaf wsX11_leaf) := goodIn_app (goodIn_of _ (by decide +kernel)) ggX11_end_X11_leaf
theorem dX11_end_0 : decode cX11_end 0 = .ok (.aload_n 0, 1) := by decide +kernel
theorem dX11_end_1 : decode cX11_end 1 = .ok (.aload_n 0, 1) := by decide +kernel
theorem dX11_end_2 : decode cX11_end 2 = .ok (.getfield 188, 3) := by decide +kernel
theorem dX11_end_5 : decode cX11_end 5 = .ok (.bipush 60, 2) := by decide +kernel
theorem dX11_end_7 : decode cX11_end 7 = .ok (.if_icmp .ne 7, 3) := by decide +kernel
theorem dX11_end_10 : decode cX11_end 10 = .ok (.iconst 1, 1) := by decide +kernel
theorem dX11_end_11 : decode cX11_end 11 = .ok (.goto 4, 3) := by decide +kernel
theorem dX11_end_14 : decode cX11_end 14 = .ok (.iconst 0, 1) := by decide +kernel
theorem dX11_end_15 : decode cX11_end 15 = .ok (.putfield 192, 3) := by decide +kernel
theorem dX11_end_18 : decode cX11_end 18 = .ok (.aload_n 0, 1) := by decide +kernel
theorem dX11_end_19 : decode cX11_end 19 = .ok (.getfield 192, 3) := by decide +kernel
theorem dX11_end_22 : decode cX11_end 22 = .ok (.ifCond .ne 13, 3) := by decide +kernel
theorem dX11_end_25 : decode cX11_end 25 = .ok (.aload_n 0, 1) := by decide +kernel
theorem dX11_end_26 : decode cX11_end 26 = .ok (.iload_n 1, 1) := by decide +kernel
theorem dX11_end_27 : decode cX11_end 27 = .ok (.iconst 0, 1) := by decide +kernel
theorem dX11_end_28 : decode cX11_end 28 = .ok (.iconst 0, 1) := by decide +kernel
theorem dX11_end_29 : decode cX11_end 29 = .ok (.invokevirtual 214, 3) := by decide +kernel
theorem dX11_end_32 : decode cX11_end 32 = .ok (.goto 4, 3) := by decide +kernel
theorem dX11_end_35 : decode cX11_end 35 = .ok (.iconst 0, 1) := by decide +kernel
theorem dX11_end_36 : decode cX11_end 36 = .ok (.ireturn, 1) := by decide +kernel
set_option maxRecDepth 20000 in
theorem ggX11_line_X11_end : GoodIn wsX11_line wsX11_end := goodIn_ca (goodIn_r _ [5, 6, 7, 8, 9, 10, 4, 11, 12, 13, 14, 15, 16, 17, 18, 19, 20, 21, 22, 23, 24, 25, 26, 27, 28, 29, 30, 31, 32, 33, 34, 35, 36, 37, 38, 39, 40, 41, 42, 43, 44, 45, 46, 47, 48, 49, 50, 51, 52, 53, 54, 55, 56, 57, 58, 59, 60, 61, 62, 63, 64, 65, 66, 67, 68, 69, 70, 71, 72, 73, 74, 75, 76, 77, 78, 79, 80, 81, 82, 83, 84, 85, 86, 87, 88, 89, 90, 91, 92, 93, 94, 95, 96, 97, 98, 99, 100, 101, 102, 103, 104, 105, 106, 107, 108, 109, 110] (by decide +kernel) (by decide +kernel)) (goodIn_sub (fun _ h => List.mem_cons_of_mem _ (List.mem_append_right _ h)) (by decide +kernel))
set_option maxRecDepth 20000 in
theorem gX11_line_X11_end : GoodIn wsX11_line (wsV RX11 218 RX11 yX11_end wsX11_end) := goodIn_app (goodIn_of _ (by decide +kernel)) ggX11_line_X11_end
theorem dX11_line_0 : decode cX11_line 0 = .ok (.aload_n 0, 1) := by decide +kernel
theorem dX11_line_1 : decode cX11_line 1 = .ok (.iconst 2, 1) := by decide +kernel
theorem dX11_line_2 : decode cX11_line 2 = .ok (.invokevirtual 218, 3) := by decide +kernel
theorem dX11_line_5 : decode cX11_line 5 = .ok (.ireturn, 1) := by decide +kernel
set_option maxRecDepth 20000 in
theorem ggX11_soft_X11_end : GoodIn wsX11_soft wsX11_end := goodIn_ca (goodIn_r _ [5, 6, 7, 8, 9, 10, 4, 11, 12, 13, 14, 15, 16, 17, 18, 19, 20, 21, 22, 23, 24, 25, 26, 27, 28, 29, 30, 31, 32, 33, 34, 35, 36, 37, 38, 39, 40, 41, 42, 43, 44, 45, 46, 47, 48, 49, 50, 51, 52, 53, 54, 55, 56, 57, 58, 59, 60, 61, 62, 63, 64, 65, 66, 67, 68, 69, 70, 71, 72, 73, 74, 75, 76, 77, 78, 79, 80, 81, 82, 83, 84, 85, 86, 87, 88, 89, 90, 91, 92, 93, 94, 95, 96, 97, 98, 99, 100, 101, 102, 103, 104, 105, 106, 107, 108, 109, 110] (by decide +kernel) (by decide +kernel)) (goodIn_sub (fun _ h => List.mem_cons_of_mem _ (List.mem_append_right _ h)) (by decide +kernel))
set_option maxRecDepth 20000 in
theorem gX11_soft_X11_end : GoodIn wsX11_soft (wsV RX11 218 RX11 yX11_end wsX11_end) := goodIn_app (goodIn_of _ (by decide +kernel)) ggX11_soft_X11_end
theorem dX11_soft_0 : decode cX11_soft 0 = .ok (.aload_n 0, 1) := by decide +kernel
theorem dX11_soft_1 : decode cX11_soft 1 = .ok (.iconst 3, 1) := by decide +kernel
theorem dX11_soft_2 : decode cX11_soft 2 = .ok (.invokevirtual 218, 3) := by decide +kernel
theorem dX11_soft_5 : decode cX11_soft 5 = .ok (.ireturn, 1) := by decide +kernel
set_option maxRecDepth 20000 in
theorem ggX11_hard_X11_end : GoodIn wsX11_hard wsX11_end := goodIn_ca (goodIn_r _ [5, 6, 7, 8, 9, 10, 4, 11, 12, 13, 14, 15, 16, 17, 18, 19, 20, 21, 22, 23, 24, 25, 26, 27, 28, 29, 30, 31, 32, 33, 34, 35, 36, 37, 38, 39, 40, 41, 42, 43, 44, 45, 46, 47, 48, 49, 50, 51, 52, 53, 54, 55, 56, 57, 58, 59, 60, 61, 62, 63, 64, 65, 66, 67, 68, 69, 70, 71, 72, 73, 74, 75, 76, 77, 78, 79, 80, 81, 82, 83, 84, 85, 86, 87, 88, 89, 90, 91, 92, 93, 94, 95, 96, 97, 98, 99, 100, 101, 102, 103, 104, 105, 106, 107, 108, 109, 110] (by decide +kernel) (by decide +kernel)) (goodIn_sub (fun _ h => List.mem_cons_of_mem _ (List.mem_append_right _ h)) (by decide +kernel))
set_option maxRecDepth 20000 in
theorem gX11_hard_X11_end : GoodIn wsX11_hard (wsV RX11 218 RX11 yX11_end wsX11_end) := goodIn_app (goodIn_of _ (by decide +kernel)) ggX11_hard_X11_end
theorem dX11_hard_0 : decode cX11_hard 0 = .ok (.aload_n 0, 1) := by decide +kernel
theorem dX11_hard_1 : decode cX11_hard 1 = .ok (.iconst 4, 1) := by decide +kernel
theorem dX11_hard_2 : decode cX11_hard 2 = .ok (.invokevirtual 218, 3) := by decide +kernel
theorem dX11_hard_5 : decode cX11_hard 5 = .ok (.ireturn, 1) := by decide +kernel
set_option maxRecDepth 20000 in
theorem ggX11_tab_X11_in : GoodIn wsX11_tab wsX11_in := goodIn_r _ [6] (by decide +kernel) (by decide +kernel)
set_option maxRecDepth 20000 in
theorem gX11_tab_X11_in : GoodIn wsX11_tab (va_wsS RX11 195 yX11_in wsX11_in) := goodIn_app (goodIn_of _ (by decide +kernel)) ggX11_tab_X11_in
set_option maxRecDepth 20000 in
theorem ggX11_tab_X11_leaf : GoodIn wsX11_tab wsX11_leaf := goodIn_ca (goodIn_r _ [10, 1, 11, 12, 13, 14, 15, 16, 17, 18, 19, 20, 21, 22, 23, 24, 25, 26, 27, 28, 29, 30, 31, 32, 33, 34, 35, 36, 37, 38, 39, 40, 41, 42, 43, 44, 45, 46, 47, 48, 49, 50, 51, 52, 53, 54, 55, 56, 57, 58, 59, 60, 61, 62, 63, 64, 65, 66, 67, 68, 69, 70, 71, 72, 73, 74, 75, 76, 77, 78, 79, 80, 81, 82, 83, 84, 85, 86, 87, 88, 89, 90, 91, 92, 93, 94, 95, 96, 97, 98, 99, 100, 101, 102, 103, 104, 105, 106, 107, 108, 109] (by decide +kernel) (by decide +kernel)) (goodIn_sub (fun _ h => List.mem_cons_of_mem _ (List.mem_append_right _ h)) (by decide +kernel))
set_option maxRecDepth 20000 in
theorem gX11_tab_X11_leaf : GoodIn wsX11_tab (wsV RX11 214 RX11 yX11_leaf wsX11_leaf) := goodIn_app (goodIn_of _ (by decide +kernel)) ggX11_tab_X11_leaf
theorem dX11_tab_0 : decode cX11_tab 0 = .ok (.aload_n 0, 1) := by decide +kernel
theorem dX11_tab_1 : decode cX11_tab 1 = .ok (.iload_n 1, 1) := by decide +kernel
theorem dX11_tab_2 : decode cX11_tab 2 = .ok (.iconst 0, 1) := by decide +kernel
theorem dX11_tab_3 : decode cX11_tab 3 = .ok (.bipush 80, 2) := by decide +kernel
theorem dX11_tab_5 : decode cX11_tab 5 = .ok (.invokestatic 195, 3) := by decide +kernel
theorem dX11_tab_8 : decode cX11_tab 8 = .ok (.ifCond .ne 7, 3) := by decide +kernel
theorem dX11_tab_11 : decode cX11_tab 11 = .ok (.iconst 1, 1) := by decide +kernel
theorem dX11_tab_12 : decode cX11_tab 12 = .ok (.goto 17, 3) := by decide +kernel
theorem dX11_tab_15 : decode cX11_tab 15 = .ok (.aload_n 0, 1) := by decide +kernel
theorem dX11_tab_16 : decode cX11_tab 16 = .ok (.getfield 188, 3) := by decide +kernel
theorem dX11_tab_19 : decode cX11_tab 19 = .ok (.bipush 60, 2) := by decide +kernel
theorem dX11_tab_21 : decode cX11_tab 21 = .ok (.if_icmp .ne 7, 3) := by decide +kernel
theorem dX11_tab_24 : decode cX11_tab 24 = .ok (.iconst 2, 1) := by decide +kernel
theorem dX11_tab_25 : decode cX11_tab 25 = .ok (.goto 4, 3) := by decide +kernel
theorem dX11_tab_28 : decode cX11_tab 28 = .ok (.iconst 0, 1) := by decide +kernel
theorem dX11_tab_29 : decode cX11_tab 29 = .ok (.putfield 192, 3) := by decide +kernel
theorem dX11_tab_32 : decode cX11_tab 32 = .ok (.aload_n 0, 1) := by decide +kernel
theorem dX11_tab_33 : decode cX11_tab 33 = .ok (.getfield 192, 3) := by decide +kernel
theorem dX11_tab_36 : decode cX11_tab 36 = .ok (.ifCond .ne 13, 3) := by decide +kernel
theorem dX11_tab_39 : decode cX11_tab 39 = .ok (.aload_n 0, 1) := by decide +kernel
theorem dX11_tab_40 : decode cX11_tab 40 = .ok (.iconst 5, 1) := by decide +kernel
theorem dX11_tab_41 : decode cX11_tab 41 = .ok (.iload_n 1, 1) := by decide +kernel
theorem dX11_tab_42 : decode cX11_tab 42 = .ok (.iconst 0, 1) := by decide +kernel
theorem dX11_tab_43 : decode cX11_tab 43 = .ok (.invokevirtual 214, 3) := by decide +kernel
theorem dX11_tab_46 : decode cX11_tab 46 = .ok (.goto 4, 3) := by decide +kernel
theorem dX11_tab_49 : decode cX11_tab 49 = .ok (.iconst 0, 1) := by decide +kernel
theorem dX11_tab_50 : decode cX11_tab 50 = .ok (.ireturn, 1) := by decide +kernel
set_option maxRecDepth 20000 in
theorem ggX11_areNodes_X11_isNode : GoodIn wsX11_areNodes wsX11_isNode := goodIn_r _ [6, 7, 8, 9, 5, 10, 11, 12, 13, 14, 15, 16, 17, 18, 19, 20, 21, 22, 23, 24, 25, 26, 27, 28, 29, 30, 31, 32, 33, 34, 35, 36, 37, 38, 39, 40, 41, 42, 43, 44, 45, 46, 47, 48, 49, 50, 51, 52, 53, 54, 55, 56, 57, 58, 59, 60, 61, 62, 63, 64, 65, 66, 67, 68, 69, 70, 71, 72, 73, 74, 75, 76, 77, 78, 79, 80, 81, 82, 83, 84, 85, 86, 87, 88, 89, 90, 91, 92, 93, 94, 95, 96, 97] (by decide +kernel) (by decide +kernel)
set_option maxRecDepth 20000 in
theorem gX11_areNodes_X11_isNode : GoodIn wsX11_areNodes (wsV RX11 222 RX11 yX11_isNode wsX11_isNode) := goodIn_app (goodIn_of _ (by decide +kernel)) ggX11_areNodes_X11_isNode
theorem dX11_areNodes_0 : decode cX11_areNodes 0 = .ok (.aload_n 0, 1) := by decide +kernel
theorem dX11_areNodes_1 : decode cX11_areNodes 1 = .ok (.aload_n 0, 1) := by decide +kernel
theorem dX11_areNodes_2 : decode cX11_areNodes 2 = .ok (.iload_n 1, 1) := by decide +kernel
theorem dX11_areNodes_3 : decode cX11_areNodes 3 = .ok (.invokevirtual 222, 3) := by decide +kernel
theorem dX11_areNodes_6 : decode cX11_areNodes 6 = .ok (.ifCond .eq 15, 3) := by decide +kernel
theorem dX11_areNodes_9 : decode cX11_areNodes 9 = .ok (.aload_n 0, 1) := by decide +kernel
theorem dX11_areNodes_10 : decode cX11_areNodes 10 = .ok (.iload_n 2, 1) := by decide +kernel
theorem dX11_areNodes_11 : decode cX11_areNodes 11 = .ok (.invokevirtual 222, 3) := by decide +kernel
theorem dX11_areNodes_14 : decode cX11_areNodes 14 = .ok (.ifCond .eq 7, 3) := by decide +kernel
theorem dX11_areNodes_17 : decode cX11_areNodes 17 = .ok (.iconst 0, 1) := by decide +kernel
theorem dX11_areNodes_18 : decode cX11_areNodes 18 = .ok (.goto 4, 3) := by decide +kernel
theorem dX11_areNodes_21 : decode cX11_areNodes 21 = .ok (.iconst 1, 1) := by decide +kernel
theorem dX11_areNodes_22 : decode cX11_areNodes 22 = .ok (.putfield 192, 3) := by decide +kernel
theorem dX11_areNodes_25 : decode cX11_areNodes 25 = .ok (.aload_n 0, 1) := by decide +kernel
theorem dX11_areNodes_26 : decode cX11_areNodes 26 = .ok (.getfield 192, 3) := by decide +kernel
theorem dX11_areNodes_29 : decode cX11_areNodes 29 = .ok (.ifCond .ne 7, 3) := by decide +kernel
theorem dX11_areNodes_32 : decode cX11_areNodes 32 = .ok (.iconst 1, 1) := by decide +kernel
theorem dX11_areNodes_33 : decode cX11_areNodes 33 = .ok (.goto 4, 3) := by decide +kernel
theorem dX11_areNodes_36 : decode cX11_areNodes 36 = .ok (.iconst 0, 1) := by decide +kernel
theorem dX11_areNodes_37 : decode cX11_areNodes 37 = .ok (.ireturn, 1) := by decide +kernel
set_option maxRecDepth 20000 in
theorem ggX11_pair_X11_areNodes : GoodIn wsX11_pair wsX11_areNodes := goodIn_r _ [5, 6, 7, 8, 9, 4, 10, 11, 12, 13, 14, 42, 43, 44, 45, 46, 47, 48, 49, 50, 51, 52, 53, 54, 55, 56, 57, 58, 59, 60, 61, 62, 63, 64, 65, 66, 67, 68, 69, 70, 71, 72, 73, 74, 75, 76, 77, 78, 79, 80, 81, 82, 83, 84, 85, 86, 87, 88, 89, 90, 91, 92, 93, 94, 95, 96, 97, 98, 99, 100, 101, 102, 103, 104, 105, 106, 107, 108, 109, 110, 111, 112, 113, 114, 115, 116, 117, 118, 119, 120, 121, 122, 123, 124, 125, 126, 127, 128] (by decide +kernel) (by decide +kernel)
set_option maxRecDepth 20000 in
theorem gX11_pair_X11_areNodes : GoodIn wsX11_pair (wsV RX11 226 RX11 yX11_areNodes wsX11_areNodes) := goodIn_app (goodIn_of _ (by decide +kernel)) ggX11_pair_X11_areNodes
theorem dX11_pair_0 : decode cX11_pair 0 = .ok (.aload_n 0, 1) := by decide +kernel
theorem dX11_pair_1 : decode cX11_pair 1 = .ok (.iload_n 1, 1) := by decide +kernel
theorem dX11_pair_2 : decode cX11_pair 2 = .ok (.iload_n 2, 1) := by decide +kernel
theorem dX11_pair_3 : decode cX11_pair 3 = .ok (.invokevirtual 226, 3) := by decide +kernel
theorem dX11_pair_6 : decode cX11_pair 6 = .ok (.ifCond .eq 16, 3) := by decide +kernel
theorem dX11_pair_9 : decode cX11_pair 9 = .ok (.aload_n 0, 1) := by decide +kernel
theorem dX11_pair_10 : decode cX11_pair 10 = .ok (.bipush 6, 2) := by decide +kernel
theorem dX11_pair_12 : decode cX11_pair 12 = .ok (.iconst 0, 1) := by decide +kernel
theorem dX11_pair_13 : decode cX11_pair 13 = .ok (.iload_n 1, 1) := by decide +kernel
theorem dX11_pair_14 : decode cX11_pair 14 = .ok (.iload_n 2, 1) := by decide +kernel
theorem dX11_pair_15 : decode cX11_pair 15 = .ok (.iconst 2, 1) := by decide +kernel
theorem dX11_pair_16 : decode cX11_pair 16 = .ok (.invokevirtual 230, 3) := by decide +kernel
theorem dX11_pair_19 : decode cX11_pair 19 = .ok (.goto 4, 3) := by decide +kernel
theorem dX11_pair_22 : decode cX11_pair 22 = .ok (.iconst 0, 1) := by decide +kernel
theorem dX11_pair_23 : decode cX11_pair 23 = .ok (.ireturn, 1) := by decide +kernel
set_option maxRecDepth 20000 in
theorem ggX11_isPart_X11_isNode : GoodIn wsX11_isPart wsX11_isNode := goodIn_r _ [6, 7, 8, 9, 5, 10, 11, 12, 13, 14, 15, 16, 17, 18, 19, 20, 21, 22, 23, 24, 25, 26, 27, 28, 29, 30, 31, 32, 33, 34, 35, 36, 37, 38, 39, 40, 41, 42, 43, 44, 45, 46, 47, 48, 49, 50, 51, 52, 53, 54, 55, 56, 57, 58, 59, 60, 61, 62, 63, 64, 65, 66, 67, 68, 69, 70, 71, 72, 73, 74, 75, 76, 77, 78, 79, 80, 81, 82, 83, 84, 85, 86, 87, 88, 89, 90, 91, 92, 93, 94, 95, 96, 97] (by decide +kernel) (by decide +kernel)
set_option maxRecDepth 20000 in
theorem gX11_isPart_X11_isNode : GoodIn wsX11_isPart (wsV RX11 222 RX11 yX11_isNode wsX11_isNode) := goodIn_app (goodIn_of _ (by decide +kernel)) ggX11_isPart_X11_isNode
theorem dX11_isPart_0 : decode cX11_isPart 0 = .ok (.aload_n 0, 1) := by decide +kernel
theorem dX11_isPart_1 : decode cX11_isPart 1 = .ok (.aload_n 0, 1) := by decide +kernel
theorem dX11_isPart_2 : decode cX11_isPart 2 = .ok (.iload_n 1, 1) := by decide +kernel
theorem dX11_isPart_3 : decode cX11_isPart 3 = .ok (.invokevirtual 222, 3) := by decide +kernel
theorem dX11_isPart_6 : decode cX11_isPart 6 = .ok (.ifCond .ne 7, 3) := by decide +kernel
theorem dX11_isPart_9 : decode cX11_isPart 9 = .ok (.iconst 1, 1) := by decide +kernel
theorem dX11_isPart_10 : decode cX11_isPart 10 = .ok (.goto 12, 3) := by decide +kernel
theorem dX11_isPart_13 : decode cX11_isPart 13 = .ok (.iload_n 2, 1) := by decide +kernel
theorem dX11_isPart_14 : decode cX11_isPart 14 = .ok (.ifCond .eq 7, 3) := by decide +kernel
theorem dX11_isPart_17 : decode cX11_isPart 17 = .ok (.iconst 0, 1) := by decide +kernel
theorem dX11_isPart_18 : decode cX11_isPart 18 = .ok (.goto 4, 3) := by decide +kernel
theorem dX11_isPart_21 : decode cX11_isPart 21 = .ok (.iconst 2, 1) := by decide +kernel
theorem dX11_isPart_22 : decode cX11_isPart 22 = .ok (.putfield 192, 3) := by decide +kernel
theorem dX11_isPart_25 : decode cX11_isPart 25 = .ok (.aload_n 0, 1) := by decide +kernel
theorem dX11_isPart_26 : decode cX11_isPart 26 = .ok (.getfield 192, 3) := by decide +kernel
theorem dX11_isPart_29 : decode cX11_isPart 29 = .ok (.ifCond .ne 7, 3) := by decide +kernel
theorem dX11_isPart_32 : decode cX11_isPart 32 = .ok (.iconst 1, 1) := by decide +kernel
theorem dX11_isPart_33 : decode cX11_isPart 33 = .ok (.goto 4, 3) := by decide +kernel
theorem dX11_isPart_36 : decode cX11_isPart 36 = .ok (.iconst 0, 1) := by decide +kernel
theorem dX11_isPart_37 : decode cX11_isPart 37 = .ok (.ireturn, 1) := by decide +kernel
set_option maxRecDepth 20000 in
theorem ggX11_nest_X11_in : GoodIn wsX11_nest wsX11_in := goodIn_r _ [4] (by decide +kernel) (by decide +kernel)
set_option maxRecDepth 20000 in
theorem gX11_nest_X11_in : GoodIn wsX11_nest (va_wsS RX11 195 yX11_in wsX11_in) := goodIn_app (goodIn_of _ (by decide +kernel)) ggX11_nest_X11_in
set_option maxRecDepth 20000 in
theorem ggX11_nest_X11_isPart : GoodIn wsX11_nest wsX11_isPart := goodIn_r _ [8, 9, 10, 11, 12, 3, 13, 14, 1, 2, 4, 42, 43, 44, 45, 46, 47, 48, 49, 50, 51, 52, 53, 54, 55, 56, 57, 58, 59, 60, 61, 62, 63, 64, 65, 66, 67, 68, 69, 70, 71, 72, 73, 74, 75, 76, 77, 78, 79, 80, 81, 82, 83, 84, 85, 86, 87, 88, 89, 90, 91, 92, 93, 94, 95, 96, 97, 98, 99, 100, 101, 102, 103, 104, 105, 106, 107, 108, 109, 110, 111, 112, 113, 114, 115, 116, 117, 118, 119, 120, 121, 122, 123, 124, 125, 126, 127, 128] (by decide +kernel) (by decide +kernel)
set_option maxRecDepth 20000 in
theorem gX11_nest_X11_isPart : GoodIn wsX11_nest (wsV RX11 234 RX11 yX11_isPart wsX11_isPart) := goodIn_app (goodIn_of _ (by decide +kernel)) ggX11_nest_X11_isPart
theorem dX11_nest_0 : decode cX11_nest 0 = .ok (.aload_n 0, 1) := by decide +kernel
theorem dX11_nest_1 : decode cX11_nest 1 = .ok (.iload_n 2, 1) := by decide +kernel
theorem dX11_nest_2 : decode cX11_nest 2 = .ok (.iload_n 1, 1) := by decide +kernel
theorem dX11_nest_3 : decode cX11_nest 3 = .ok (.bipush (-20), 2) := by decide +kernel
theorem dX11_nest_5 : decode cX11_nest 5 = .ok (.bipush 20, 2) := by decide +kernel
theorem dX11_nest_7 : decode cX11_nest 7 = .ok (.invokestatic 195, 3) := by decide +kernel
theorem dX11_nest_10 : decode cX11_nest 10 = .ok (.invokevirtual 234, 3) := by decide +kernel
theorem dX11_nest_13 : decode cX11_nest 13 = .ok (.ifCond .eq 16, 3) := by decide +kernel
theorem dX11_nest_16 : decode cX11_nest 16 = .ok (.aload_n 0, 1) := by decide +kernel
theorem dX11_nest_17 : decode cX11_nest 17 = .ok (.bipush 7, 2) := by decide +kernel
theorem dX11_nest_19 : decode cX11_nest 19 = .ok (.iload_n 1, 1) := by decide +kernel
theorem dX11_nest_20 : decode cX11_nest 20 = .ok (.iload_n 2, 1) := by decide +kernel
theorem dX11_nest_21 : decode cX11_nest 21 = .ok (.iconst (-1), 1) := by decide +kernel
theorem dX11_nest_22 : decode cX11_nest 22 = .ok (.iconst 3, 1) := by decide +kernel
theorem dX11_nest_23 : decode cX11_nest 23 = .ok (.invokevirtual 230, 3) := by decide +kernel
theorem dX11_nest_26 : decode cX11_nest 26 = .ok (.goto 4, 3) := by decide +kernel
theorem dX11_nest_29 : decode cX11_nest 29 = .ok (.iconst 0, 1) := by decide +kernel
theorem dX11_nest_30 : decode cX11_nest 30 = .ok (.ireturn, 1) := by decide +kernel
set_option maxRecDepth 20000 in
theorem ggX11_align_X11_isPart : GoodIn wsX11_align wsX11_isPart := goodIn_r _ [5, 6, 7, 8, 9, 4, 10, 11, 12, 13, 14, 42, 43, 44, 45, 46, 47, 48, 49, 50, 51, 52, 53, 54, 55, 56, 57, 58, 59, 60, 61, 62, 63, 64, 65, 66, 67, 68, 69, 70, 71, 72, 73, 74, 75, 76, 77, 78, 79, 80, 81, 82, 83, 84, 85, 86, 87, 88, 89, 90, 91, 92, 93, 94, 95, 96, 97, 98, 99, 100, 101, 102, 103, 104, 105, 106, 107, 108, 109, 110, 111, 112, 113, 114, 115, 116, 117, 118, 119, 120, 121, 122, 123, 124, 125, 126, 127, 128] (by decide +kernel) (by decide +kernel)
set_option maxRecDepth 20000 in
theorem gX11_align_X11_isPart : GoodIn wsX11_align (wsV RX11 234 RX11 yX11_isPart wsX11_isPart) := goodIn_app (goodIn_of _ (by decide +kernel)) ggX11_align_X11_isPart
theorem dX11_align_0 : decode cX11_align 0 = .ok (.aload_n 0, 1) := by decide +kernel
theorem dX11_align_1 : decode cX11_align 1 = .ok (.iload_n 1, 1) := by decide +kernel
theorem dX11_align_2 : decode cX11_align 2 = .ok (.iconst 1, 1) := by decide +kernel
theorem dX11_align_3 : decode cX11_align 3 = .ok (.invokevirtual 234, 3) := by decide +kernel
theorem dX11_align_6 : decode cX11_align 6 = .ok (.ifCond .eq 16, 3) := by decide +kernel
theorem dX11_align_9 : decode cX11_align 9 = .ok (.aload_n 0, 1) := by decide +kernel
theorem dX11_align_10 : decode cX11_align 10 = .ok (.bipush 8, 2) := by decide +kernel
theorem dX11_align_12 : decode cX11_align 12 = .ok (.iconst 0, 1) := by decide +kernel
theorem dX11_align_13 : decode cX11_align 13 = .ok (.iload_n 1, 1) := by decide +kernel
theorem dX11_align_14 : decode cX11_align 14 = .ok (.iconst (-1), 1) := by decide +kernel
theorem dX11_align_15 : decode cX11_align 15 = .ok (.iconst 2, 1) := by decide +kernel
theorem dX11_align_16 : decode cX11_align 16 = .ok (.invokevirtual 230, 3) := by decide +kernel
theorem dX11_align_19 : decode cX11_align 19 = .ok (.goto 4, 3) := by decide +kernel
theorem dX11_align_22 : decode cX11_align 22 = .ok (.iconst 0, 1) := by decide +kernel
theorem dX11_align_23 : decode cX11_align 23 = .ok (.ireturn, 1) := by decide +kernel
set_option maxRecDepth 20000 in
theorem ggX11_group_X11_isPart : GoodIn wsX11_group wsX11_isPart := goodIn_r _ [5, 6, 7, 8, 9, 4, 10, 11, 12, 13, 14, 42, 43, 44, 45, 46, 47, 48, 49, 50, 51, 52, 53, 54, 55, 56, 57, 58, 59, 60, 61, 62, 63, 64, 65, 66, 67, 68, 69, 70, 71, 72, 73, 74, 75, 76, 77, 78, 79, 80, 81, 82, 83, 84, 85, 86, 87, 88, 89, 90, 91, 92, 93, 94, 95, 96, 97, 98, 99, 100, 101, 102, 103, 104, 105, 106, 107, 108, 109, 110, 111, 112, 113, 114, 115, 116, 117, 118, 119, 120, 121, 122, 123, 124, 125, 126, 127, 128] (by decide +kernel) (by decide +kernel)
set_option maxRecDepth 20000 in
theorem gX11_group_X11_isPart : GoodIn wsX11_group (wsV RX11 234 RX11 yX11_isPart wsX11_isPart) := goodIn_app (goodIn_of _ (by decide +kernel)) ggX11_group_X11_isPart
theorem dX11_group_0 : decode cX11_group 0 = .ok (.aload_n 0, 1) := by decide +kernel
theorem dX11_group_1 : decode cX11_group 1 = .ok (.iload_n 1, 1) := by decide +kernel
theorem dX11_group_2 : decode cX11_group 2 = .ok (.iconst 1, 1) := by decide +kernel
theorem dX11_group_3 : decode cX11_group 3 = .ok (.invokevirtual 234, 3) := by decide +kernel
theorem dX11_group_6 : decode cX11_group 6 = .ok (.ifCond .eq 16, 3) := by decide +kernel
theorem dX11_group_9 : decode cX11_group 9 = .ok (.aload_n 0, 1) := by decide +kernel
theorem dX11_group_10 : decode cX11_group 10 = .ok (.bipush 9, 2) := by decide +kernel
theorem dX11_group_12 : decode cX11_group 12 = .ok (.iconst 0, 1) := by decide +kernel
theorem dX11_group_13 : decode cX11_group 13 = .ok (.iload_n 1, 1) := by decide +kernel
theorem dX11_group_14 : decode cX11_group 14 = .ok (.iconst (-1), 1) := by decide +kernel
theorem dX11_group_15 : decode cX11_group 15 = .ok (.iconst 2, 1) := by decide +kernel
theorem dX11_group_16 : decode cX11_group 16 = .ok (.invokevirtual 230, 3) := by decide +kernel
theorem dX11_group_19 : decode cX11_group 19 = .ok (.goto 4, 3) := by decide +kernel
theorem dX11_group_22 : decode cX11_group 22 = .ok (.iconst 0, 1) := by decide +kernel
theorem dX11_group_23 : decode cX11_group 23 = .ok (.ireturn, 1) := by decide +kernel
set_option maxRecDepth 20000 in
theorem ggX11_choice_X11_areNodes : GoodIn wsX11_choice wsX11_areNodes := goodIn_r _ [5, 6, 7, 8, 9, 4, 10, 11, 12, 13, 14, 42, 43, 44, 45, 46, 47, 48, 49, 50, 51, 52, 53, 54, 55, 56, 57, 58, 59, 60, 61, 62, 63, 64, 65, 66, 67, 68, 69, 70, 71, 72, 73, 74, 75, 76, 77, 78, 79, 80, 81, 82, 83, 84, 85, 86, 87, 88, 89, 90, 91, 92, 93, 94, 95, 96, 97, 98, 99, 100, 101, 102, 103, 104, 105, 106, 107, 108, 109, 110, 111, 112, 113, 114, 115, 116, 117, 118, 119, 120, 121, 122, 123, 124, 125, 126, 127, 128] (by decide +kernel) (by decide +kernel)
set_option maxRecDepth 20000 in
theorem gX11_choice_X11_areNodes : GoodIn wsX11_choice (wsV RX11 226 RX11 yX11_areNodes wsX11_areNodes) := goodIn_app (goodIn_of _ (by decide +kernel)) ggX11_choice_X11_areNodes
theorem dX11_choice_0 : decode cX11_choice 0 = .ok (.aload_n 0, 1) := by decide +kernel
theorem dX11_choice_1 : decode cX11_choice 1 = .ok (.iload_n 1, 1) := by decide +kernel
theorem dX11_choice_2 : decode cX11_choice 2 = .ok (.iload_n 2, 1) := by decide +kernel
theorem dX11_choice_3 : decode cX11_choice 3 = .ok (.invokevirtual 226, 3) := by decide +kernel
theorem dX11_choice_6 : decode cX11_choice 6 = .ok (.ifCond .eq 16, 3) := by decide +kernel
theorem dX11_choice_9 : decode cX11_choice 9 = .ok (.aload_n 0, 1) := by decide +kernel
theorem dX11_choice_10 : decode cX11_choice 10 = .ok (.bipush 10, 2) := by decide +kernel
theorem dX11_choice_12 : decode cX11_choice 12 = .ok (.iconst 0, 1) := by decide +kernel
theorem dX11_choice_13 : decode cX11_choice 13 = .ok (.iload_n 1, 1) := by decide +kernel
theorem dX11_choice_14 : decode cX11_choice 14 = .ok (.iload_n 2, 1) := by decide +kernel
theorem dX11_choice_15 : decode cX11_choice 15 = .ok (.iconst 2, 1) := by decide +kernel
theorem dX11_choice_16 : decode cX11_choice 16 = .ok (.invokevirtual 230, 3) := by decide +kernel
theorem dX11_choice_19 : decode cX11_choice 19 = .ok (.goto 4, 3) := by decide +kernel
theorem dX11_choice_22 : decode cX11_choice 22 = .ok (.iconst 0, 1) := by decide +kernel
theorem dX11_choice_23 : decode cX11_choice 23 = .ok (.ireturn, 1) := by decide +kernel
set_option maxRecDepth 20000 in
theorem ggX11_flat_X11_isPart : GoodIn wsX11_flat wsX11_isPart := goodIn_r _ [5, 6, 7, 8, 9, 4, 10, 11, 12, 13, 14, 42, 43, 44, 45, 46, 47, 48, 49, 50, 51, 52, 53, 54, 55, 56, 57, 58, 59, 60, 61, 62, 63, 64, 65, 66, 67, 68, 69, 70, 71, 72, 73, 74, 75, 76, 77, 78, 79, 80, 81, 82, 83, 84, 85, 86, 87, 88, 89, 90, 91, 92, 93, 94, 95, 96, 97, 98, 99, 100, 101, 102, 103, 104, 105, 106, 107, 108, 109, 110, 111, 112, 113, 114, 115, 116, 117, 118, 119, 120, 121, 122, 123, 124, 125, 126, 127, 128] (by decide +kernel) (by decide +kernel)
set_option maxRecDepth 20000 in
theorem gX11_flat_X11_isPart : GoodIn wsX11_flat (wsV RX11 234 RX11 yX11_isPart wsX11_isPart) := goodIn_app (goodIn_of _ (by decide +kernel)) ggX11_flat_X11_isPart
theorem dX11_flat_0 : decode cX11_flat 0 = .ok (.aload_n 0, 1) := by decide +kernel
theorem dX11_flat_1 : decode cX11_flat 1 = .ok (.iload_n 1, 1) := by decide +kernel
theorem dX11_flat_2 : decode cX11_flat 2 = .ok (.iconst 1, 1) := by decide +kernel
theorem dX11_flat_3 : decode cX11_flat 3 = .ok (.invokevirtual 234, 3) := by decide +kernel
theorem dX11_flat_6 : decode cX11_flat 6 = .ok (.ifCond .eq 16, 3) := by decide +kernel
theorem dX11_flat_9 : decode cX11_flat 9 = .ok (.aload_n 0, 1) := by decide +kernel
theorem dX11_flat_10 : decode cX11_flat 10 = .ok (.bipush 11, 2) := by decide +kernel
theorem dX11_flat_12 : decode cX11_flat 12 = .ok (.iconst 0, 1) := by decide +kernel
theorem dX11_flat_13 : decode cX11_flat 13 = .ok (.iload_n 1, 1) := by decide +kernel
theorem dX11_flat_14 : decode cX11_flat 14 = .ok (.iconst (-1), 1) := by decide +kernel
theorem dX11_flat_15 : decode cX11_flat 15 = .ok (.iconst 2, 1) := by decide +kernel
theorem dX11_flat_16 : decode cX11_flat 16 = .ok (.invokevirtual 230, 3) := by decide +kernel
theorem dX11_flat_19 : decode cX11_flat 19 = .ok (.goto 4, 3) := by decide +kernel
theorem dX11_flat_22 : decode cX11_flat 22 = .ok (.iconst 0, 1) := by decide +kernel
theorem dX11_flat_23 : decode cX11_flat 23 = .ok (.ireturn, 1) := by decide +kernel
set_option maxRecDepth 20000 in
theorem ggX11_broken_X11_areNodes : GoodIn wsX11_broken wsX11_areNodes := goodIn_r _ [5, 6, 7, 8, 9, 4, 10, 11, 12, 13, 14, 42, 43, 44, 45, 46, 47, 48, 49, 50, 51, 52, 53, 54, 55, 56, 57, 58, 59, 60, 61, 62, 63, 64, 65, 66, 67, 68, 69, 70, 71, 72, 73, 74, 75, 76, 77, 78, 79, 80, 81, 82, 83, 84, 85, 86, 87, 88, 89, 90, 91, 92, 93, 94, 95, 96, 97, 98, 99, 100, 101, 102, 103, 104, 105, 106, 107, 108, 109, 110, 111, 112, 113, 114, 115, 116, 117, 118, 119, 120, 121, 122, 123, 124, 125, 126, 127, 128] (by decide +kernel) (by decide +kernel)
set_option maxRecDepth 20000 in
theorem gX11_broken_X11_areNodes : GoodIn wsX11_broken (wsV RX11 226 RX11 yX11_areNodes wsX11_areNodes) := goodIn_app (goodIn_of _ (by decide +kernel)) ggX11_broken_X11_areNodes
theorem dX11_broken_0 : decode cX11_broken 0 = .ok (.aload_n 0, 1) := by decide +kernel
theorem dX11_broken_1 : decode cX11_broken 1 = .ok (.iload_n 1, 1) := by decide +kernel
theorem dX11_broken_2 : decode cX11_broken 2 = .ok (.iload_n 2, 1) := by decide +kernel
theorem dX11_broken_3 : decode cX11_broken 3 = .ok (.invokevirtual 226, 3) := by decide +kernel
theorem dX11_broken_6 : decode cX11_broken 6 = .ok (.ifCond .eq 16, 3) := by decide +kernel
theorem dX11_broken_9 : decode cX11_broken 9 = .ok (.aload_n 0, 1) := by decide +kernel
theorem dX11_broken_10 : decode cX11_broken 10 = .ok (.bipush 12, 2) := by decide +kernel
theorem dX11_broken_12 : decode cX11_broken 12 = .ok (.iconst 0, 1) := by decide +kernel
theorem dX11_broken_13 : decode cX11_broken 13 = .ok (.iload_n 1, 1) := by decide +kernel
theorem dX11_broken_14 : decode cX11_broken 14 = .ok (.iload_n 2, 1) := by decide +kernel
theorem dX11_broken_15 : decode cX11_broken 15 = .ok (.iconst 2, 1) := by decide +kernel
theorem dX11_broken_16 : decode cX11_broken 16 = .ok (.invokevirtual 230, 3) := by decide +kernel
theorem dX11_broken_19 : decode cX11_broken 19 = .ok (.goto 4, 3) := by decide +kernel
theorem dX11_broken_22 : decode cX11_broken 22 = .ok (.iconst 0, 1) := by decide +kernel
theorem dX11_broken_23 : decode cX11_broken 23 = .ok (.ireturn, 1) := by decide +kernel
set_option maxRecDepth 20000 in
theorem ggX11_price_X11_in : GoodIn wsX11_price wsX11_in := goodIn_r _ [4] (by decide +kernel) (by decide +kernel)
set_option maxRecDepth 20000 in
theorem gX11_price_X11_in : GoodIn wsX11_price (va_wsS RX11 195 yX11_in wsX11_in) := goodIn_app (goodIn_of _ (by decide +kernel)) ggX11_price_X11_in
set_option maxRecDepth 20000 in
theorem ggX11_price_X11_isPart : GoodIn wsX11_price wsX11_isPart := goodIn_r _ [8, 9, 10, 11, 12, 3, 13, 14, 1, 2, 4, 42, 43, 44, 45, 46, 47, 48, 49, 50, 51, 52, 53, 54, 55, 56, 57, 58, 59, 60, 61, 62, 63, 64, 65, 66, 67, 68, 69, 70, 71, 72, 73, 74, 75, 76, 77, 78, 79, 80, 81, 82, 83, 84, 85, 86, 87, 88, 89, 90, 91, 92, 93, 94, 95, 96, 97, 98, 99, 100, 101, 102, 103, 104, 105, 106, 107, 108, 109, 110, 111, 112, 113, 114, 115, 116, 117, 118, 119, 120, 121, 122, 123, 124, 125, 126, 127, 128] (by decide +kernel) (by decide +kernel)
set_option maxRecDepth 20000 in
theorem gX11_price_X11_isPart : GoodIn wsX11_price (wsV RX11 234 RX11 yX11_isPart wsX11_isPart) := goodIn_app (goodIn_of _ (by decide +kernel)) ggX11_price_X11_isPart
theorem dX11_price_0 : decode cX11_price 0 = .ok (.aload_n 0, 1) := by decide +kernel
theorem dX11_price_1 : decode cX11_price 1 = .ok (.iload_n 2, 1) := by decide +kernel
theorem dX11_price_2 : decode cX11_price 2 = .ok (.iload_n 1, 1) := by decide +kernel
theorem dX11_price_3 : decode cX11_price 3 = .ok (.iconst 0, 1) := by decide +kernel
theorem dX11_price_4 : decode cX11_price 4 = .ok (.sipush 1000, 3) := by decide +kernel
theorem dX11_price_7 : decode cX11_price 7 = .ok (.invokestatic 195, 3) := by decide +kernel
theorem dX11_price_10 : decode cX11_price 10 = .ok (.invokevirtual 234, 3) := by decide +kernel
theorem dX11_price_13 : decode cX11_price 13 = .ok (.ifCond .eq 16, 3) := by decide +kernel
theorem dX11_price_16 : decode cX11_price 16 = .ok (.aload_n 0, 1) := by decide +kernel
theorem dX11_price_17 : decode cX11_price 17 = .ok (.bipush 13, 2) := by decide +kernel
theorem dX11_price_19 : decode cX11_price 19 = .ok (.iload_n 1, 1) := by decide +kernel
theorem dX11_price_20 : decode cX11_price 20 = .ok (.iload_n 2, 1) := by decide +kernel
theorem dX11_price_21 : decode cX11_price 21 = .ok (.iconst (-1), 1) := by decide +kernel
theorem dX11_price_22 : decode cX11_price 22 = .ok (.iconst 3, 1) := by decide +kernel
theorem dX11_price_23 : decode cX11_price 23 = .ok (.invokevirtual 230, 3) := by decide +kernel
theorem dX11_price_26 : decode cX11_price 26 = .ok (.goto 4, 3) := by decide +kernel
theorem dX11_price_29 : decode cX11_price 29 = .ok (.iconst 0, 1) := by decide +kernel
theorem dX11_price_30 : decode cX11_price 30 = .ok (.ireturn, 1) := by decide +kernel
set_option maxRecDepth 20000 in
theorem ggX11_keep_X11_in : GoodIn wsX11_keep wsX11_in := goodIn_r _ [4] (by decide +kernel) (by decide +kernel)
set_option maxRecDepth 20000 in
theorem gX11_keep_X11_in : GoodIn wsX11_keep (va_wsS RX11 195 yX11_in wsX11_in) := goodIn_app (goodIn_of _ (by decide +kernel)) ggX11_keep_X11_in
set_option maxRecDepth 20000 in
theorem ggX11_keep_X11_isPart : GoodIn wsX11_keep wsX11_isPart := goodIn_r _ [8, 9, 10, 11, 12, 3, 13, 14, 1, 2, 4, 42, 43, 44, 45, 46, 47, 48, 49, 50, 51, 52, 53, 54, 55, 56, 57, 58, 59, 60, 61, 62, 63, 64, 65, 66, 67, 68, 69, 70, 71, 72, 73, 74, 75, 76, 77, 78, 79, 80, 81, 82, 83, 84, 85, 86, 87, 88, 89, 90, 91, 92, 93, 94, 95, 96, 97, 98, 99, 100, 101, 102, 103, 104, 105, 106, 107, 108, 109, 110, 111, 112, 113, 114, 115, 116, 117, 118, 119, 120, 121, 122, 123, 124, 125, 126, 127, 128] (by decide +kernel) (by decide +kernel)
set_option maxRecDepth 20000 in
theorem gX11_keep_X11_isPart : GoodIn wsX11_keep (wsV RX11 234 RX11 yX11_isPart wsX11_isPart) := goodIn_app (goodIn_of _ (by decide +kernel)) ggX11_keep_X11_isPart
theorem dX11_keep_0 : decode cX11_keep 0 = .ok (.aload_n 0, 1) := by decide +kernel
theorem dX11_keep_1 : decode cX11_keep 1 = .ok (.iload_n 2, 1) := by decide +kernel
theorem dX11_keep_2 : decode cX11_keep 2 = .ok (.iload_n 1, 1) := by decide +kernel
theorem dX11_keep_3 : decode cX11_keep 3 = .ok (.iconst 0, 1) := by decide +kernel
theorem dX11_keep_4 : decode cX11_keep 4 = .ok (.sipush 1000, 3) := by decide +kernel
theorem dX11_keep_7 : decode cX11_keep 7 = .ok (.invokestatic 195, 3) := by decide +kernel
theorem dX11_keep_10 : decode cX11_keep 10 = .ok (.invokevirtual 234, 3) := by decide +kernel
theorem dX11_keep_13 : decode cX11_keep 13 = .ok (.ifCond .eq 16, 3) := by decide +kernel
theorem dX11_keep_16 : decode cX11_keep 16 = .ok (.aload_n 0, 1) := by decide +kernel
theorem dX11_keep_17 : decode cX11_keep 17 = .ok (.bipush 14, 2) := by decide +kernel
theorem dX11_keep_19 : decode cX11_keep 19 = .ok (.iload_n 1, 1) := by decide +kernel
theorem dX11_keep_20 : decode cX11_keep 20 = .ok (.iload_n 2, 1) := by decide +kernel
theorem dX11_keep_21 : decode cX11_keep 21 = .ok (.iconst (-1), 1) := by decide +kernel
theorem dX11_keep_22 : decode cX11_keep 22 = .ok (.iconst 3, 1) := by decide +kernel
theorem dX11_keep_23 : decode cX11_keep 23 = .ok (.invokevirtual 230, 3) := by decide +kernel
theorem dX11_keep_26 : decode cX11_keep 26 = .ok (.goto 4, 3) := by decide +kernel
theorem dX11_keep_29 : decode cX11_keep 29 = .ok (.iconst 0, 1) := by decide +kernel
theorem dX11_keep_30 : decode cX11_keep 30 = .ok (.ireturn, 1) := by decide +kernel
set_option maxRecDepth 20000 in
theorem ggX11_cell_X11_in : GoodIn wsX11_cell wsX11_in := goodIn_r _ [6] (by decide +kernel) (by decide +kernel)
set_option maxRecDepth 20000 in
theorem gX11_cell_X11_in : GoodIn wsX11_cell (va_wsS RX11 195 yX11_in wsX11_in) := goodIn_app (goodIn_of _ (by decide +kernel)) ggX11_cell_X11_in
set_option maxRecDepth 20000 in
theorem ggX11_cell_X11_isPart : GoodIn wsX11_cell wsX11_isPart := goodIn_r _ [10, 2, 11, 12, 13, 5, 14, 15, 3, 4, 6, 42, 43, 44, 45, 46, 47, 48, 49, 50, 51, 52, 53, 54, 55, 56, 57, 58, 59, 60, 61, 62, 63, 64, 65, 66, 67, 68, 69, 70, 71, 72, 73, 74, 75, 76, 77, 78, 79, 80, 81, 82, 83, 84, 85, 86, 87, 88, 89, 90, 91, 92, 93, 94, 95, 96, 97, 98, 99, 100, 101, 102, 103, 104, 105, 106, 107, 108, 109, 110, 111, 112, 113, 114, 115, 116, 117, 118, 119, 120, 121, 122, 123, 124, 125, 126, 127, 128] (by decide +kernel) (by decide +kernel)
set_option maxRecDepth 20000 in
theorem gX11_cell_X11_isPart : GoodIn wsX11_cell (wsV RX11 234 RX11 yX11_isPart wsX11_isPart) := goodIn_app (goodIn_of _ (by decide +kernel)) ggX11_cell_X11_isPart
theorem dX11_cell_0 : decode cX11_cell 0 = .ok (.aload_n 0, 1) := by decide +kernel
theorem dX11_cell_1 : decode cX11_cell 1 = .ok (.iload_n 3, 1) := by decide +kernel
theorem dX11_cell_2 : decode cX11_cell 2 = .ok (.iload_n 1, 1) := by decide +kernel
theorem dX11_cell_3 : decode cX11_cell 3 = .ok (.iconst 0, 1) := by decide +kernel
theorem dX11_cell_4 : decode cX11_cell 4 = .ok (.iconst 3, 1) := by decide +kernel
theorem dX11_cell_5 : decode cX11_cell 5 = .ok (.invokestatic 195, 3) := by decide +kernel
theorem dX11_cell_8 : decode cX11_cell 8 = .ok (.ifCond .eq 16, 3) := by decide +kernel
theorem dX11_cell_11 : decode cX11_cell 11 = .ok (.iload_n 2, 1) := by decide +kernel
theorem dX11_cell_12 : decode cX11_cell 12 = .ok (.iconst 0, 1) := by decide +kernel
theorem dX11_cell_13 : decode cX11_cell 13 = .ok (.iconst 4, 1) := by decide +kernel
theorem dX11_cell_14 : decode cX11_cell 14 = .ok (.invokestatic 195, 3) := by decide +kernel
theorem dX11_cell_17 : decode cX11_cell 17 = .ok (.ifCond .eq 7, 3) := by decide +kernel
theorem dX11_cell_20 : decode cX11_cell 20 = .ok (.iconst 1, 1) := by decide +kernel
theorem dX11_cell_21 : decode cX11_cell 21 = .ok (.goto 4, 3) := by decide +kernel
theorem dX11_cell_24 : decode cX11_cell 24 = .ok (.iconst 0, 1) := by decide +kernel
theorem dX11_cell_25 : decode cX11_cell 25 = .ok (.invokevirtual 234, 3) := by decide +kernel
theorem dX11_cell_28 : decode cX11_cell 28 = .ok (.ifCond .ne 5, 3) := by decide +kernel
theorem dX11_cell_31 : decode cX11_cell 31 = .ok (.iconst 0, 1) := by decide +kernel
theorem dX11_cell_32 : decode cX11_cell 32 = .ok (.ireturn, 1) := by decide +kernel
theorem dX11_cell_33 : decode cX11_cell 33 = .ok (.aload_n 0, 1) := by decide +kernel
theorem dX11_cell_34 : decode cX11_cell 34 = .ok (.aload_n 0, 1) := by decide +kernel
theorem dX11_cell_35 : decode cX11_cell 35 = .ok (.getfield 43, 3) := by decide +kernel
theorem dX11_cell_38 : decode cX11_cell 38 = .ok (.iload_n 3, 1) := by decide +kernel
theorem dX11_cell_39 : decode cX11_cell 39 = .ok (.baload, 1) := by decide +kernel
theorem dX11_cell_40 : decode cX11_cell 40 = .ok (.ifCond .eq 7, 3) := by decide +kernel
theorem dX11_cell_43 : decode cX11_cell 43 = .ok (.iconst 3, 1) := by decide +kernel
theorem dX11_cell_44 : decode cX11_cell 44 = .ok (.goto 4, 3) := by decide +kernel
theorem dX11_cell_47 : decode cX11_cell 47 = .ok (.iconst 0, 1) := by decide +kernel
theorem dX11_cell_48 : decode cX11_cell 48 = .ok (.putfield 192, 3) := by decide +kernel
theorem dX11_cell_51 : decode cX11_cell 51 = .ok (.aload_n 0, 1) := by decide +kernel
theorem dX11_cell_52 : decode cX11_cell 52 = .ok (.getfield 192, 3) := by decide +kernel
theorem dX11_cell_55 : decode cX11_cell 55 = .ok (.ifCond .ne 20, 3) := by decide +kernel
theorem dX11_cell_58 : decode cX11_cell 58 = .ok (.aload_n 0, 1) := by decide +kernel
theorem dX11_cell_59 : decode cX11_cell 59 = .ok (.bipush 15, 2) := by decide +kernel
theorem dX11_cell_61 : decode cX11_cell 61 = .ok (.iconst 5, 1) := by decide +kernel
theorem dX11_cell_62 : decode cX11_cell 62 = .ok (.iload_n 1, 1) := by decide +kernel
theorem dX11_cell_63 : decode cX11_cell 63 = .ok (.imul, 1) := by decide +kernel
theorem dX11_cell_64 : decode cX11_cell 64 = .ok (.iload_n 2, 1) := by decide +kernel
theorem dX11_cell_65 : decode cX11_cell 65 = .ok (.iadd, 1) := by decide +kernel
theorem dX11_cell_66 : decode cX11_cell 66 = .ok (.iload_n 3, 1) := by decide +kernel
theorem dX11_cell_67 : decode cX11_cell 67 = .ok (.iconst (-1), 1) := by decide +kernel
theorem dX11_cell_68 : decode cX11_cell 68 = .ok (.iconst 3, 1) := by decide +kernel
theorem dX11_cell_69 : decode cX11_cell 69 = .ok (.invokevirtual 230, 3) := by decide +kernel
theorem dX11_cell_72 : decode cX11_cell 72 = .ok (.goto 4, 3) := by decide +kernel
theorem dX11_cell_75 : decode cX11_cell 75 = .ok (.iconst 0, 1) := by decide +kernel
theorem dX11_cell_76 : decode cX11_cell 76 = .ok (.ireturn, 1) := by decide +kernel
theorem dX11_nodes_0 : decode cX11_nodes 0 = .ok (.aload_n 0, 1) := by decide +kernel
theorem dX11_nodes_1 : decode cX11_nodes 1 = .ok (.iconst 0, 1) := by decide +kernel
theorem dX11_nodes_2 : decode cX11_nodes 2 = .ok (.putfield 192, 3) := by decide +kernel
theorem dX11_nodes_5 : decode cX11_nodes 5 = .ok (.aload_n 0, 1) := by decide +kernel
theorem dX11_nodes_6 : decode cX11_nodes 6 = .ok (.getfield 188, 3) := by decide +kernel
theorem dX11_nodes_9 : decode cX11_nodes 9 = .ok (.ireturn, 1) := by decide +kernel
set_option maxRecDepth 20000 in
theorem ggX11_size_X11_isNode : GoodIn wsX11_size wsX11_isNode := goodIn_r _ [7, 8, 9, 10, 6, 11, 12, 13, 14, 15, 16, 17, 18, 19, 20, 21, 22, 23, 24, 25, 26, 27, 28, 29, 30, 31, 32, 33, 34, 35, 36, 37, 38, 39, 40, 41, 42, 43, 44, 45, 46, 47, 48, 49, 50, 51, 52, 53, 54, 55, 56, 57, 58, 59, 60, 61, 62, 63, 64, 65, 66, 67, 68, 69, 70, 71, 72, 73, 74, 75, 76, 77, 78, 79, 80, 81, 82, 83, 84, 85, 86, 87, 88, 89, 90, 91, 92, 93, 94, 95, 96, 97, 98] (by decide +kernel) (by decide +kernel)
set_option maxRecDepth 20000 in
theorem gX11_size_X11_isNode : GoodIn wsX11_size (wsV RX11 222 RX11 yX11_isNode wsX11_isNode) := goodIn_app (goodIn_of _ (by decide +kernel)) ggX11_size_X11_isNode
theorem dX11_size_0 : decode cX11_size 0 = .ok (.aload_n 0, 1) := by decide +kernel
theorem dX11_size_1 : decode cX11_size 1 = .ok (.aload_n 0, 1) := by decide +kernel
theorem dX11_size_2 : decode cX11_size 2 = .ok (.iload_n 1, 1) := by decide +kernel
theorem dX11_size_3 : decode cX11_size 3 = .ok (.invokevirtual 222, 3) := by decide +kernel
theorem dX11_size_6 : decode cX11_size 6 = .ok (.ifCond .eq 7, 3) := by decide +kernel
theorem dX11_size_9 : decode cX11_size 9 = .ok (.iconst 0, 1) := by decide +kernel
theorem dX11_size_10 : decode cX11_size 10 = .ok (.goto 4, 3) := by decide +kernel
theorem dX11_size_13 : decode cX11_size 13 = .ok (.iconst 1, 1) := by decide +kernel
theorem dX11_size_14 : decode cX11_size 14 = .ok (.putfield 192, 3) := by decide +kernel
theorem dX11_size_17 : decode cX11_size 17 = .ok (.aload_n 0, 1) := by decide +kernel
theorem dX11_size_18 : decode cX11_size 18 = .ok (.getfield 192, 3) := by decide +kernel
theorem dX11_size_21 : decode cX11_size 21 = .ok (.ifCond .ne 12, 3) := by decide +kernel
theorem dX11_size_24 : decode cX11_size 24 = .ok (.aload_n 0, 1) := by decide +kernel
theorem dX11_size_25 : decode cX11_size 25 = .ok (.getfield 25, 3) := by decide +kernel
theorem dX11_size_28 : decode cX11_size 28 = .ok (.iload_n 1, 1) := by decide +kernel
theorem dX11_size_29 : decode cX11_size 29 = .ok (.iaload, 1) := by decide +kernel
theorem dX11_size_30 : decode cX11_size 30 = .ok (.goto 4, 3) := by decide +kernel
theorem dX11_size_33 : decode cX11_size 33 = .ok (.iconst 0, 1) := by decide +kernel
theorem dX11_size_34 : decode cX11_size 34 = .ok (.ireturn, 1) := by decide +kernel
set_option maxRecDepth 20000 in
theorem ggX11_layouts_X11_isNode : GoodIn wsX11_layouts wsX11_isNode := goodIn_r _ [7, 8, 9, 10, 6, 11, 12, 13, 14, 15, 16, 17, 18, 19, 20, 21, 22, 23, 24, 25, 26, 27, 28, 29, 30, 31, 32, 33, 34, 35, 36, 37, 38, 39, 40, 41, 42, 43, 44, 45, 46, 47, 48, 49, 50, 51, 52, 53, 54, 55, 56, 57, 58, 59, 60, 61, 62, 63, 64, 65, 66, 67, 68, 69, 70, 71, 72, 73, 74, 75, 76, 77, 78, 79, 80, 81, 82, 83, 84, 85, 86, 87, 88, 89, 90, 91, 92, 93, 94, 95, 96, 97, 98] (by decide +kernel) (by decide +kernel)
set_option maxRecDepth 20000 in
theorem gX11_layouts_X11_isNode : GoodIn wsX11_layouts (wsV RX11 222 RX11 yX11_isNode wsX11_isNode) := goodIn_app (goodIn_of _ (by decide +kernel)) ggX11_layouts_X11_isNode
theorem dX11_layouts_0 : decode cX11_layouts 0 = .ok (.aload_n 0, 1) := by decide +kernel
theorem dX11_layouts_1 : decode cX11_layouts 1 = .ok (.aload_n 0, 1) := by decide +kernel
theorem dX11_layouts_2 : decode cX11_layouts 2 = .ok (.iload_n 1, 1) := by decide +kernel
theorem dX11_layouts_3 : decode cX11_layouts 3 = .ok (.invokevirtual 222, 3) := by decide +kernel
theorem dX11_layouts_6 : decode cX11_layouts 6 = .ok (.ifCond .eq 7, 3) := by decide +kernel
theorem dX11_layouts_9 : decode cX11_layouts 9 = .ok (.iconst 0, 1) := by decide +kernel
theorem dX11_layouts_10 : decode cX11_layouts 10 = .ok (.goto 4, 3) := by decide +kernel
theorem dX11_layouts_13 : decode cX11_layouts 13 = .ok (.iconst 1, 1) := by decide +kernel
theorem dX11_layouts_14 : decode cX11_layouts 14 = .ok (.putfield 192, 3) := by decide +kernel
theorem dX11_layouts_17 : decode cX11_layouts 17 = .ok (.aload_n 0, 1) := by decide +kernel
theorem dX11_layouts_18 : decode cX11_layouts 18 = .ok (.getfield 192, 3) := by decide +kernel
theorem dX11_layouts_21 : decode cX11_layouts 21 = .ok (.ifCond .ne 12, 3) := by decide +kernel
theorem dX11_layouts_24 : decode cX11_layouts 24 = .ok (.aload_n 0, 1) := by decide +kernel
theorem dX11_layouts_25 : decode cX11_layouts 25 = .ok (.getfield 37, 3) := by decide +kernel
theorem dX11_layouts_28 : decode cX11_layouts 28 = .ok (.iload_n 1, 1) := by decide +kernel
theorem dX11_layouts_29 : decode cX11_layouts 29 = .ok (.iaload, 1) := by decide +kernel
theorem dX11_layouts_30 : decode cX11_layouts 30 = .ok (.goto 4, 3) := by decide +kernel
theorem dX11_layouts_33 : decode cX11_layouts 33 = .ok (.iconst 0, 1) := by decide +kernel
theorem dX11_layouts_34 : decode cX11_layouts 34 = .ok (.ireturn, 1) := by decide +kernel
set_option maxRecDepth 20000 in
theorem ggX11_asksToPrint_X11_isNode : GoodIn wsX11_asksToPrint wsX11_isNode := goodIn_r _ [9, 10, 11, 12, 8, 13, 14, 15, 16, 17, 18, 19, 20, 21, 22, 23, 24, 25, 26, 27, 28, 29, 30, 31, 32, 33, 34, 35, 36, 37, 38, 39, 40, 41, 42, 43, 44, 45, 46, 47, 48, 49, 50, 51, 52, 53, 54, 55, 56, 57, 58, 59, 60, 61, 62, 63, 64, 65, 66, 67, 68, 69, 70, 71, 72, 73, 74, 75, 76, 77, 78, 79, 80, 81, 82, 83, 84, 85, 86, 87, 88, 89, 90, 91, 92, 93, 94, 95, 96, 97, 98, 99, 100] (by decide +kernel) (by decide +kernel)
set_option maxRecDepth 20000 in
theorem gX11_asksToPrint_X11_isNode : GoodIn wsX11_asksToPrint (wsV RX11 222 RX11 yX11_isNode wsX11_isNode) := goodIn_app (goodIn_of _ (by decide +kernel)) ggX11_asksToPrint_X11_isNode
set_option maxRecDepth 20000 in
theorem ggX11_asksToPrint_X11_in : GoodIn wsX11_asksToPrint wsX11_in := goodIn_r _ [13] (by decide +kernel) (by decide +kernel)
set_option maxRecDepth 20000 in
theorem gX11_asksToPrint_X11_in : GoodIn wsX11_asksToPrint (va_wsS RX11 195 yX11_in wsX11_in) := goodIn_app (goodIn_of _ (by decide +kernel)) ggX11_asksToPrint_X11_in
theorem dX11_asksToPrint_0 : decode cX11_asksToPrint 0 = .ok (.aload_n 0, 1) := by decide +kernel
theorem dX11_asksToPrint_1 : decode cX11_asksToPrint 1 = .ok (.aload_n 0, 1) := by decide +kernel
theorem dX11_asksToPrint_2 : decode cX11_asksToPrint 2 = .ok (.iload_n 1, 1) := by decide +kernel
theorem dX11_asksToPrint_3 : decode cX11_asksToPrint 3 = .ok (.invokevirtual 222, 3) := by decide +kernel
theorem dX11_asksToPrint_6 : decode cX11_asksToPrint 6 = .ok (.ifCond .ne 7, 3) := by decide +kernel
theorem dX11_asksToPrint_9 : decode cX11_asksToPrint 9 = .ok (.iconst 1, 1) := by decide +kernel
theorem dX11_asksToPrint_10 : decode cX11_asksToPrint 10 = .ok (.goto 39, 3) := by decide +kernel
theorem dX11_asksToPrint_13 : decode cX11_asksToPrint 13 = .ok (.iload_n 2, 1) := by decide +kernel
theorem dX11_asksToPrint_14 : decode cX11_asksToPrint 14 = .ok (.iconst 1, 1) := by decide +kernel
theorem dX11_asksToPrint_15 : decode cX11_asksToPrint 15 = .ok (.bipush 80, 2) := by decide +kernel
theorem dX11_asksToPrint_17 : decode cX11_asksToPrint 17 = .ok (.invokestatic 195, 3) := by decide +kernel
theorem dX11_asksToPrint_20 : decode cX11_asksToPrint 20 = .ok (.ifCond .eq 24, 3) := by decide +kernel
theorem dX11_asksToPrint_23 : decode cX11_asksToPrint 23 = .ok (.iload_n 3, 1) := by decide +kernel
theorem dX11_asksToPrint_24 : decode cX11_asksToPrint 24 = .ok (.iconst 1, 1) := by decide +kernel
theorem dX11_asksToPrint_25 : decode cX11_asksToPrint 25 = .ok (.bipush 80, 2) := by decide +kernel
theorem dX11_asksToPrint_27 : decode cX11_asksToPrint 27 = .ok (.invokestatic 195, 3) := by decide +kernel
theorem dX11_asksToPrint_30 : decode cX11_asksToPrint 30 = .ok (.ifCond .eq 14, 3) := by decide +kernel
theorem dX11_asksToPrint_33 : decode cX11_asksToPrint 33 = .ok (.iload 4, 2) := by decide +kernel
theorem dX11_asksToPrint_35 : decode cX11_asksToPrint 35 = .ok (.iconst 0, 1) := by decide +kernel
theorem dX11_asksToPrint_36 : decode cX11_asksToPrint 36 = .ok (.bipush 100, 2) := by decide +kernel
theorem dX11_asksToPrint_38 : decode cX11_asksToPrint 38 = .ok (.invokestatic 195, 3) := by decide +kernel
theorem dX11_asksToPrint_41 : decode cX11_asksToPrint 41 = .ok (.ifCond .ne 7, 3) := by decide +kernel
theorem dX11_asksToPrint_44 : decode cX11_asksToPrint 44 = .ok (.iconst 2, 1) := by decide +kernel
theorem dX11_asksToPrint_45 : decode cX11_asksToPrint 45 = .ok (.goto 4, 3) := by decide +kernel
theorem dX11_asksToPrint_48 : decode cX11_asksToPrint 48 = .ok (.iconst 0, 1) := by decide +kernel
theorem dX11_asksToPrint_49 : decode cX11_asksToPrint 49 = .ok (.putfield 192, 3) := by decide +kernel
theorem dX11_asksToPrint_52 : decode cX11_asksToPrint 52 = .ok (.aload_n 0, 1) := by decide +kernel
theorem dX11_asksToPrint_53 : decode cX11_asksToPrint 53 = .ok (.getfield 192, 3) := by decide +kernel
theorem dX11_asksToPrint_56 : decode cX11_asksToPrint 56 = .ok (.ifCond .ne 19, 3) := by decide +kernel
theorem dX11_asksToPrint_59 : decode cX11_asksToPrint 59 = .ok (.aload_n 0, 1) := by decide +kernel
theorem dX11_asksToPrint_60 : decode cX11_asksToPrint 60 = .ok (.iload_n 2, 1) := by decide +kernel
theorem dX11_asksToPrint_61 : decode cX11_asksToPrint 61 = .ok (.putfield 261, 3) := by decide +kernel
theorem dX11_asksToPrint_64 : decode cX11_asksToPrint 64 = .ok (.aload_n 0, 1) := by decide +kernel
theorem dX11_asksToPrint_65 : decode cX11_asksToPrint 65 = .ok (.iload_n 3, 1) := by decide +kernel
theorem dX11_asksToPrint_66 : decode cX11_asksToPrint 66 = .ok (.putfield 264, 3) := by decide +kernel
theorem dX11_asksToPrint_69 : decode cX11_asksToPrint 69 = .ok (.aload_n 0, 1) := by decide +kernel
theorem dX11_asksToPrint_70 : decode cX11_asksToPrint 70 = .ok (.iload 4, 2) := by decide +kernel
theorem dX11_asksToPrint_72 : decode cX11_asksToPrint 72 = .ok (.putfield 280, 3) := by decide +kernel
theorem dX11_asksToPrint_75 : decode cX11_asksToPrint 75 = .ok (.aload_n 0, 1) := by decide +kernel
theorem dX11_asksToPrint_76 : decode cX11_asksToPrint 76 = .ok (.getfield 192, 3) := by decide +kernel
theorem dX11_asksToPrint_79 : decode cX11_asksToPrint 79 = .ok (.ifCond .ne 7, 3) := by decide +kernel
theorem dX11_asksToPrint_82 : decode cX11_asksToPrint 82 = .ok (.iconst 1, 1) := by decide +kernel
theorem dX11_asksToPrint_83 : decode cX11_asksToPrint 83 = .ok (.goto 4, 3) := by decide +kernel
theorem dX11_asksToPrint_86 : decode cX11_asksToPrint 86 = .ok (.iconst 0, 1) := by decide +kernel
theorem dX11_asksToPrint_87 : decode cX11_asksToPrint 87 = .ok (.ireturn, 1) := by decide +kernel
set_option maxRecDepth 20000 in
theorem ggX11_print_X11_asksToPrint : GoodIn wsX11_print wsX11_asksToPrint := goodIn_r _ [5, 6, 7, 8, 9, 10, 11, 12, 4, 13, 14, 15, 16, 17, 213, 214, 215, 216, 217, 218, 219, 220, 221, 222, 223, 224, 225, 226, 227, 228, 229, 230, 231, 232, 233, 234, 235, 236, 237, 238, 239, 240, 241, 242, 243, 244, 245, 246, 247, 248, 249, 250, 251, 252, 253, 254, 255, 256, 257, 258, 259, 260, 261, 262, 263, 264, 265, 266, 267, 268, 269, 270, 271, 272, 273, 274, 275, 276, 277, 278, 279, 280, 281, 282, 283, 284, 285, 286, 287, 288, 289, 290, 291, 292, 293, 294, 295, 296, 297, 298, 299] (by decide +kernel) (by decide +kernel)
set_option maxRecDepth 20000 in
theorem gX11_print_X11_asksToPrint : GoodIn wsX11_print (wsV RX11 413 RX11 yX11_asksToPrint wsX11_asksToPrint) := goodIn_app (goodIn_of _ (by decide +kernel)) ggX11_print_X11_asksToPrint
theorem dX11_print_0 : decode cX11_print 0 = .ok (.aload_n 0, 1) := by decide +kernel
theorem dX11_print_1 : decode cX11_print 1 = .ok (.iload_n 1, 1) := by decide +kernel
theorem dX11_print_2 : decode cX11_print 2 = .ok (.iload_n 2, 1) := by decide +kernel
theorem dX11_print_3 : decode cX11_print 3 = .ok (.iload_n 3, 1) := by decide +kernel
theorem dX11_print_4 : decode cX11_print 4 = .ok (.iload 4, 2) := by decide +kernel
theorem dX11_print_6 : decode cX11_print 6 = .ok (.invokevirtual 413, 3) := by decide +kernel
theorem dX11_print_9 : decode cX11_print 9 = .ok (.ifCond .eq 11, 3) := by decide +kernel
theorem dX11_print_12 : decode cX11_print 12 = .ok (.aload_n 0, 1) := by decide +kernel
theorem dX11_print_13 : decode cX11_print 13 = .ok (.iload_n 1, 1) := by decide +kernel
theorem dX11_print_14 : decode cX11_print 14 = .ok (.invokevirtual 416, 3) := by decide +kernel
theorem dX11_print_17 : decode cX11_print 17 = .ok (.goto 4, 3) := by decide +kernel
theorem dX11_print_20 : decode cX11_print 20 = .ok (.iconst 0, 1) := by decide +kernel
theorem dX11_print_21 : decode cX11_print 21 = .ok (.ireturn, 1) := by decide +kernel
set_option maxRecDepth 20000 in
theorem ggX11_printByAll_X11_asksToPrint : GoodIn wsX11_printByAll wsX11_asksToPrint := goodIn_r _ [14, 2, 15, 16, 17, 18, 19, 20, 13, 21, 22, 23, 24, 25, 139, 140, 141, 142, 143, 144, 145, 146, 147, 148, 149, 150, 151, 152, 153, 154, 155, 156, 157, 158, 159, 160, 161, 162, 163, 164, 165, 166, 167, 168, 169, 170, 171, 172, 173, 174, 175, 176, 177, 178, 179, 180, 181, 182, 183, 184, 185, 186, 187, 188, 189, 190, 191, 192, 193, 194, 195, 196, 197, 198, 199, 200, 201, 202, 203, 204, 205, 206, 207, 208, 209, 210, 211, 212, 213, 214, 215, 216, 217, 218, 219, 220, 221, 222, 223, 224, 225] (by decide +kernel) (by decide +kernel)
set_option maxRecDepth 20000 in
theorem gX11_printByAll_X11_asksToPrint : GoodIn wsX11_printByAll (wsV RX11 413 RX11 yX11_asksToPrint wsX11_asksToPrint) := goodIn_app (goodIn_of _ (by decide +kernel)) ggX11_printByAll_X11_asksToPrint
theorem dX11_printByAll_0 : decode cX11_printByAll 0 = .ok (.aload_n 0, 1) := by decide +kernel
theorem dX11_printByAll_1 : decode cX11_printByAll 1 = .ok (.iload_n 1, 1) := by decide +kernel
theorem dX11_printByAll_2 : decode cX11_printByAll 2 = .ok (.iload_n 2, 1) := by decide +kernel
theorem dX11_printByAll_3 : decode cX11_printByAll 3 = .ok (.iload_n 3, 1) := by decide +kernel
theorem dX11_printByAll_4 : decode cX11_printByAll 4 = .ok (.iload 4, 2) := by decide +kernel
theorem dX11_printByAll_6 : decode cX11_printByAll 6 = .ok (.invokevirtual 413, 3) := by decide +kernel
theorem dX11_printByAll_9 : decode cX11_printByAll 9 = .ok (.ifCond .ne 5, 3) := by decide +kernel
theorem dX11_printByAll_12 : decode cX11_printByAll 12 = .ok (.iconst 0, 1) := by decide +kernel
theorem dX11_printByAll_13 : decode cX11_printByAll 13 = .ok (.ireturn, 1) := by decide +kernel
theorem dX11_printByAll_14 : decode cX11_printByAll 14 = .ok (.aload_n 0, 1) := by decide +kernel
theorem dX11_printByAll_15 : decode cX11_printByAll 15 = .ok (.aload_n 0, 1) := by decide +kernel
theorem dX11_printByAll_16 : decode cX11_printByAll 16 = .ok (.getfield 37, 3) := by decide +kernel
theorem dX11_printByAll_19 : decode cX11_printByAll 19 = .ok (.iload_n 1, 1) := by decide +kernel
theorem dX11_printByAll_20 : decode cX11_printByAll 20 = .ok (.iaload, 1) := by decide +kernel
theorem dX11_printByAll_21 : decode cX11_printByAll 21 = .ok (.bipush 100, 2) := by decide +kernel
theorem dX11_printByAll_23 : decode cX11_printByAll 23 = .ok (.if_icmp .le 7, 3) := by decide +kernel
theorem dX11_printByAll_26 : decode cX11_printByAll 26 = .ok (.iconst 3, 1) := by decide +kernel
theorem dX11_printByAll_27 : decode cX11_printByAll 27 = .ok (.goto 4, 3) := by decide +kernel
theorem dX11_printByAll_30 : decode cX11_printByAll 30 = .ok (.iconst 0, 1) := by decide +kernel
theorem dX11_printByAll_31 : decode cX11_printByAll 31 = .ok (.putfield 192, 3) := by decide +kernel
theorem dX11_printByAll_34 : decode cX11_printByAll 34 = .ok (.aload_n 0, 1) := by decide +kernel
theorem dX11_printByAll_35 : decode cX11_printByAll 35 = .ok (.getfield 192, 3) := by decide +kernel
theorem dX11_printByAll_38 : decode cX11_printByAll 38 = .ok (.ifCond .le 5, 3) := by decide +kernel
theorem dX11_printByAll_41 : decode cX11_printByAll 41 = .ok (.iconst 0, 1) := by decide +kernel
theorem dX11_printByAll_42 : decode cX11_printByAll 42 = .ok (.ireturn, 1) := by decide +kernel
theorem dX11_printByAll_43 : decode cX11_printByAll 43 = .ok (.aload_n 0, 1) := by decide +kernel
theorem dX11_printByAll_44 : decode cX11_printByAll 44 = .ok (.iload_n 1, 1) := by decide +kernel
theorem dX11_printByAll_45 : decode cX11_printByAll 45 = .ok (.invokevirtual 317, 3) := by decide +kernel
theorem dX11_printByAll_48 : decode cX11_printByAll 48 = .ok (.iconst (-1), 1) := by decide +kernel
theorem dX11_printByAll_49 : decode cX11_printByAll 49 = .ok (.istore 5, 2) := by decide +kernel
theorem dX11_printByAll_51 : decode cX11_printByAll 51 = .ok (.iconst 0, 1) := by decide +kernel
theorem dX11_printByAll_52 : decode cX11_printByAll 52 = .ok (.istore 6, 2) := by decide +kernel
theorem dX11_printByAll_54 : decode cX11_printByAll 54 = .ok (.iconst 0, 1) := by decide +kernel
theorem dX11_printByAll_55 : decode cX11_printByAll 55 = .ok (.istore 7, 2) := by decide +kernel
theorem dX11_printByAll_57 : decode cX11_printByAll 57 = .ok (.aload_n 0, 1) := by decide +kernel
theorem dX11_printByAll_58 : decode cX11_printByAll 58 = .ok (.iconst 0, 1) := by decide +kernel
theorem dX11_printByAll_59 : decode cX11_printByAll 59 = .ok (.putfield 332, 3) := by decide +kernel
theorem dX11_printByAll_62 : decode cX11_printByAll 62 = .ok (.iconst 1, 1) := by decide +kernel
theorem dX11_printByAll_63 : decode cX11_printByAll 63 = .ok (.istore 8, 2) := by decide +kernel
theorem dX11_printByAll_65 : decode cX11_printByAll 65 = .ok (.iload 8, 2) := by decide +kernel
theorem dX11_printByAll_67 : decode cX11_printByAll 67 = .ok (.ifCond .eq 92, 3) := by decide +kernel
theorem dX11_printByAll_70 : decode cX11_printByAll 70 = .ok (.aload_n 0, 1) := by decide +kernel
theorem dX11_printByAll_71 : decode cX11_printByAll 71 = .ok (.invokevirtual 419, 3) := by decide +kernel
theorem dX11_printByAll_74 : decode cX11_printByAll 74 = .ok (.aload_n 0, 1) := by decide +kernel
theorem dX11_printByAll_75 : decode cX11_printByAll 75 = .ok (.getfield 335, 3) := by decide +kernel
theorem dX11_printByAll_78 : decode cX11_printByAll 78 = .ok (.ifCond .ne 72, 3) := by decide +kernel
theorem dX11_printByAll_81 : decode cX11_printByAll 81 = .ok (.iload 5, 2) := by decide +kernel
theorem dX11_printByAll_83 : decode cX11_printByAll 83 = .ok (.iconst (-1), 1) := by decide +kernel
theorem dX11_printByAll_84 : decode cX11_printByAll 84 = .ok (.if_icmp .eq 16, 3) := by decide +kernel
theorem dX11_printByAll_87 : decode cX11_printByAll 87 = .ok (.aload_n 0, 1) := by decide +kernel
theorem dX11_printByAll_88 : decode cX11_printByAll 88 = .ok (.iload 6, 2) := by decide +kernel
theorem dX11_printByAll_90 : decode cX11_printByAll 90 = .ok (.iload 7, 2) := by decide +kernel
theorem dX11_printByAll_92 : decode cX11_printByAll 92 = .ok (.iload 5, 2) := by decide +kernel
theorem dX11_printByAll_94 : decode cX11_printByAll 94 = .ok (.invokevirtual 422, 3) := by decide +kernel
theorem dX11_printByAll_97 : decode cX11_printByAll 97 = .ok (.ifCond .eq 53, 3) := by decide +kernel
theorem dX11_printByAll_100 : decode cX11_printByAll 100 = .ok (.aload_n 0, 1) := by decide +kernel
theorem dX11_printByAll_101 : decode cX11_printByAll 101 = .ok (.getfield 329, 3) := by decide +kernel
theorem dX11_printByAll_104 : decode cX11_printByAll 104 = .ok (.istore 5, 2) := by decide +kernel
theorem dX11_printByAll_106 : decode cX11_printByAll 106 = .ok (.aload_n 0, 1) := by decide +kernel
theorem dX11_printByAll_107 : decode cX11_printByAll 107 = .ok (.getfield 347, 3) := by decide +kernel
theorem dX11_printByAll_110 : decode cX11_printByAll 110 = .ok (.istore 6, 2) := by decide +kernel
theorem dX11_printByAll_112 : decode cX11_printByAll 112 = .ok (.aload_n 0, 1) := by decide +kernel
theorem dX11_printByAll_113 : decode cX11_printByAll 113 = .ok (.getfield 350, 3) := by decide +kernel
theorem dX11_printByAll_116 : decode cX11_printByAll 116 = .ok (.istore 7, 2) := by decide +kernel
theorem dX11_printByAll_118 : decode cX11_printByAll 118 = .ok (.iconst 0, 1) := by decide +kernel
theorem dX11_printByAll_119 : decode cX11_printByAll 119 = .ok (.istore 9, 2) := by decide +kernel
theorem dX11_printByAll_121 : decode cX11_printByAll 121 = .ok (.iload 9, 2) := by decide +kernel
theorem dX11_printByAll_123 : decode cX11_printByAll 123 = .ok (.aload_n 0, 1) := by decide +kernel
theorem dX11_printByAll_124 : decode cX11_printByAll 124 = .ok (.getfield 329, 3) := by decide +kernel
theorem dX11_printByAll_127 : decode cX11_printByAll 127 = .ok (.if_icmp .ge 23, 3) := by decide +kernel
theorem dX11_printByAll_130 : decode cX11_printByAll 130 = .ok (.aload_n 0, 1) := by decide +kernel
theorem dX11_printByAll_131 : decode cX11_printByAll 131 = .ok (.getfield 176, 3) := by decide +kernel
theorem dX11_printByAll_134 : decode cX11_printByAll 134 = .ok (.iload 9, 2) := by decide +kernel
theorem dX11_printByAll_136 : decode cX11_printByAll 136 = .ok (.aload_n 0, 1) := by decide +kernel
theorem dX11_printByAll_137 : decode cX11_printByAll 137 = .ok (.getfield 140, 3) := by decide +kernel
theorem dX11_printByAll_140 : decode cX11_printByAll 140 = .ok (.iload 9, 2) := by decide +kernel
theorem dX11_printByAll_142 : decode cX11_printByAll 142 = .ok (.iaload, 1) := by decide +kernel
theorem dX11_printByAll_143 : decode cX11_printByAll 143 = .ok (.iastore, 1) := by decide +kernel
theorem dX11_printByAll_144 : decode cX11_printByAll 144 = .ok (.iinc 9 1, 3) := by decide +kernel
theorem dX11_printByAll_147 : decode cX11_printByAll 147 = .ok (.goto (-26), 3) := by decide +kernel
theorem dX11_printByAll_150 : decode cX11_printByAll 150 = .ok (.aload_n 0, 1) := by decide +kernel
theorem dX11_printByAll_151 : decode cX11_printByAll 151 = .ok (.invokevirtual 425, 3) := by decide +kernel
theorem dX11_printByAll_154 : decode cX11_printByAll 154 = .ok (.istore 8, 2) := by decide +kernel
theorem dX11_printByAll_156 : decode cX11_printByAll 156 = .ok (.goto (-91), 3) := by decide +kernel
theorem dX11_printByAll_159 : decode cX11_printByAll 159 = .ok (.aload_n 0, 1) := by decide +kernel
theorem dX11_printByAll_160 : decode cX11_printByAll 160 = .ok (.iload 5, 2) := by decide +kernel
theorem dX11_printByAll_162 : decode cX11_printByAll 162 = .ok (.iconst (-1), 1) := by decide +kernel
theorem dX11_printByAll_163 : decode cX11_printByAll 163 = .ok (.if_icmp .ne 7, 3) := by decide +kernel
theorem dX11_printByAll_166 : decode cX11_printByAll 166 = .ok (.iconst 3, 1) := by decide +kernel
theorem dX11_printByAll_167 : decode cX11_printByAll 167 = .ok (.goto 4, 3) := by decide +kernel
theorem dX11_printByAll_170 : decode cX11_printByAll 170 = .ok (.iconst 0, 1) := by decide +kernel
theorem dX11_printByAll_171 : decode cX11_printByAll 171 = .ok (.putfield 192, 3) := by decide +kernel
theorem dX11_printByAll_174 : decode cX11_printByAll 174 = .ok (.aload_n 0, 1) := by decide +kernel
theorem dX11_printByAll_175 : decode cX11_printByAll 175 = .ok (.getfield 192, 3) := by decide +kernel
theorem dX11_printByAll_178 : decode cX11_printByAll 178 = .ok (.ifCond .le 5, 3) := by decide +kernel
theorem dX11_printByAll_181 : decode cX11_printByAll 181 = .ok (.iconst 0, 1) := by decide +kernel
theorem dX11_printByAll_182 : decode cX11_printByAll 182 = .ok (.ireturn, 1) := by decide +kernel
theorem dX11_printByAll_183 : decode cX11_printByAll 183 = .ok (.aload_n 0, 1) := by decide +kernel
theorem dX11_printByAll_184 : decode cX11_printByAll 184 = .ok (.iload 5, 2) := by decide +kernel
theorem dX11_printByAll_186 : decode cX11_printByAll 186 = .ok (.putfield 332, 3) := by decide +kernel
theorem dX11_printByAll_189 : decode cX11_printByAll 189 = .ok (.iconst 0, 1) := by decide +kernel
theorem dX11_printByAll_190 : decode cX11_printByAll 190 = .ok (.istore 9, 2) := by decide +kernel
theorem dX11_printByAll_192 : decode cX11_printByAll 192 = .ok (.iload 9, 2) := by decide +kernel
theorem dX11_printByAll_194 : decode cX11_printByAll 194 = .ok (.iload 5, 2) := by decide +kernel
theorem dX11_printByAll_196 : decode cX11_printByAll 196 = .ok (.if_icmp .ge 23, 3) := by decide +kernel
theorem dX11_printByAll_199 : decode cX11_printByAll 199 = .ok (.aload_n 0, 1) := by decide +kernel
theorem dX11_printByAll_200 : decode cX11_printByAll 200 = .ok (.getfield 140, 3) := by decide +kernel
theorem dX11_printByAll_203 : decode cX11_printByAll 203 = .ok (.iload 9, 2) := by decide +kernel
theorem dX11_printByAll_205 : decode cX11_printByAll 205 = .ok (.aload_n 0, 1) := by decide +kernel
theorem dX11_printByAll_206 : decode cX11_printByAll 206 = .ok (.getfield 176, 3) := by decide +kernel
theorem dX11_printByAll_209 : decode cX11_printByAll 209 = .ok (.iload 9, 2) := by decide +kernel
theorem dX11_printByAll_211 : decode cX11_printByAll 211 = .ok (.iaload, 1) := by decide +kernel
theorem dX11_printByAll_212 : decode cX11_printByAll 212 = .ok (.iastore, 1) := by decide +kernel
theorem dX11_printByAll_213 : decode cX11_printByAll 213 = .ok (.iinc 9 1, 3) := by decide +kernel
theorem dX11_printByAll_216 : decode cX11_printByAll 216 = .ok (.goto (-24), 3) := by decide +kernel
theorem dX11_printByAll_219 : decode cX11_printByAll 219 = .ok (.aload_n 0, 1) := by decide +kernel
theorem dX11_printByAll_220 : decode cX11_printByAll 220 = .ok (.invokevirtual 410, 3) := by decide +kernel
theorem dX11_printByAll_223 : decode cX11_printByAll 223 = .ok (.ireturn, 1) := by decide +kernel
set_option maxRecDepth 20000 in
theorem ggX11_printGreedy_X11_asksToPrint : GoodIn wsX11_printGreedy wsX11_asksToPrint := goodIn_r _ [10, 5, 11, 12, 13, 14, 15, 16, 9, 17, 18, 19, 20, 21, 129, 130, 131, 132, 133, 134, 135, 136, 137, 138, 139, 140, 141, 142, 143, 144, 145, 146, 147, 148, 149, 150, 151, 152, 153, 154, 155, 156, 157, 158, 159, 160, 161, 162, 163, 164, 165, 166, 167, 168, 169, 170, 171, 172, 173, 174, 175, 176, 177, 178, 179, 180, 181, 182, 183, 184, 185, 186, 187, 188, 189, 190, 191, 192, 193, 194, 195, 196, 197, 198, 199, 200, 201, 202, 203, 204, 205, 206, 207, 208, 209, 210, 211, 212, 213, 214, 215] (by decide +kernel) (by decide +kernel)
set_option maxRecDepth 20000 in
theorem gX11_printGreedy_X11_asksToPrint : GoodIn wsX11_printGreedy (wsV RX11 413 RX11 yX11_asksToPrint wsX11_asksToPrint) := goodIn_app (goodIn_of _ (by decide +kernel)) ggX11_printGreedy_X11_asksToPrint
theorem dX11_printGreedy_0 : decode cX11_printGreedy 0 = .ok (.aload_n 0, 1) := by decide +kernel
theorem dX11_printGreedy_1 : decode cX11_printGreedy 1 = .ok (.iload_n 1, 1) := by decide +kernel
theorem dX11_printGreedy_2 : decode cX11_printGreedy 2 = .ok (.iload_n 2, 1) := by decide +kernel
theorem dX11_printGreedy_3 : decode cX11_printGreedy 3 = .ok (.iload_n 3, 1) := by decide +kernel
theorem dX11_printGreedy_4 : decode cX11_printGreedy 4 = .ok (.iload 4, 2) := by decide +kernel
theorem dX11_printGreedy_6 : decode cX11_printGreedy 6 = .ok (.invokevirtual 413, 3) := by decide +kernel
theorem dX11_printGreedy_9 : decode cX11_printGreedy 9 = .ok (.ifCond .ne 5, 3) := by decide +kernel
theorem dX11_printGreedy_12 : decode cX11_printGreedy 12 = .ok (.iconst 0, 1) := by decide +kernel
theorem dX11_printGreedy_13 : decode cX11_printGreedy 13 = .ok (.ireturn, 1) := by decide +kernel
theorem dX11_printGreedy_14 : decode cX11_printGreedy 14 = .ok (.aload_n 0, 1) := by decide +kernel
theorem dX11_printGreedy_15 : decode cX11_printGreedy 15 = .ok (.iload_n 1, 1) := by decide +kernel
theorem dX11_printGreedy_16 : decode cX11_printGreedy 16 = .ok (.invokevirtual 317, 3) := by decide +kernel
theorem dX11_printGreedy_19 : decode cX11_printGreedy 19 = .ok (.aload_n 0, 1) := by decide +kernel
theorem dX11_printGreedy_20 : decode cX11_printGreedy 20 = .ok (.iconst 0, 1) := by decide +kernel
theorem dX11_printGreedy_21 : decode cX11_printGreedy 21 = .ok (.putfield 332, 3) := by decide +kernel
theorem dX11_printGreedy_24 : decode cX11_printGreedy 24 = .ok (.iconst 1, 1) := by decide +kernel
theorem dX11_printGreedy_25 : decode cX11_printGreedy 25 = .ok (.istore 5, 2) := by decide +kernel
theorem dX11_printGreedy_27 : decode cX11_printGreedy 27 = .ok (.iload 5, 2) := by decide +kernel
theorem dX11_printGreedy_29 : decode cX11_printGreedy 29 = .ok (.ifCond .eq 96, 3) := by decide +kernel
theorem dX11_printGreedy_32 : decode cX11_printGreedy 32 = .ok (.aload_n 0, 1) := by decide +kernel
theorem dX11_printGreedy_33 : decode cX11_printGreedy 33 = .ok (.getfield 140, 3) := by decide +kernel
theorem dX11_printGreedy_36 : decode cX11_printGreedy 36 = .ok (.aload_n 0, 1) := by decide +kernel
theorem dX11_printGreedy_37 : decode cX11_printGreedy 37 = .ok (.getfield 332, 3) := by decide +kernel
theorem dX11_printGreedy_40 : decode cX11_printGreedy 40 = .ok (.iconst 0, 1) := by decide +kernel
theorem dX11_printGreedy_41 : decode cX11_printGreedy 41 = .ok (.iastore, 1) := by decide +kernel
theorem dX11_printGreedy_42 : decode cX11_printGreedy 42 = .ok (.aload_n 0, 1) := by decide +kernel
theorem dX11_printGreedy_43 : decode cX11_printGreedy 43 = .ok (.dup, 1) := by decide +kernel
theorem dX11_printGreedy_44 : decode cX11_printGreedy 44 = .ok (.getfield 332, 3) := by decide +kernel
theorem dX11_printGreedy_47 : decode cX11_printGreedy 47 = .ok (.iconst 1, 1) := by decide +kernel
theorem dX11_printGreedy_48 : decode cX11_printGreedy 48 = .ok (.iadd, 1) := by decide +kernel
theorem dX11_printGreedy_49 : decode cX11_printGreedy 49 = .ok (.putfield 332, 3) := by decide +kernel
theorem dX11_printGreedy_52 : decode cX11_printGreedy 52 = .ok (.aload_n 0, 1) := by decide +kernel
theorem dX11_printGreedy_53 : decode cX11_printGreedy 53 = .ok (.aload_n 0, 1) := by decide +kernel
theorem dX11_printGreedy_54 : decode cX11_printGreedy 54 = .ok (.getfield 332, 3) := by decide +kernel
theorem dX11_printGreedy_57 : decode cX11_printGreedy 57 = .ok (.iconst 1, 1) := by decide +kernel
theorem dX11_printGreedy_58 : decode cX11_printGreedy 58 = .ok (.isub, 1) := by decide +kernel
theorem dX11_printGreedy_59 : decode cX11_printGreedy 59 = .ok (.iconst 0, 1) := by decide +kernel
theorem dX11_printGreedy_60 : decode cX11_printGreedy 60 = .ok (.invokevirtual 395, 3) := by decide +kernel
theorem dX11_printGreedy_63 : decode cX11_printGreedy 63 = .ok (.aload_n 0, 1) := by decide +kernel
theorem dX11_printGreedy_64 : decode cX11_printGreedy 64 = .ok (.getfield 329, 3) := by decide +kernel
theorem dX11_printGreedy_67 : decode cX11_printGreedy 67 = .ok (.aload_n 0, 1) := by decide +kernel
theorem dX11_printGreedy_68 : decode cX11_printGreedy 68 = .ok (.getfield 332, 3) := by decide +kernel
theorem dX11_printGreedy_71 : decode cX11_printGreedy 71 = .ok (.if_icmp .lt 7, 3) := by decide +kernel
theorem dX11_printGreedy_74 : decode cX11_printGreedy 74 = .ok (.iconst 1, 1) := by decide +kernel
theorem dX11_printGreedy_75 : decode cX11_printGreedy 75 = .ok (.goto 4, 3) := by decide +kernel
theorem dX11_printGreedy_78 : decode cX11_printGreedy 78 = .ok (.iconst 0, 1) := by decide +kernel
theorem dX11_printGreedy_79 : decode cX11_printGreedy 79 = .ok (.istore 5, 2) := by decide +kernel
theorem dX11_printGreedy_81 : decode cX11_printGreedy 81 = .ok (.iload 5, 2) := by decide +kernel
theorem dX11_printGreedy_83 : decode cX11_printGreedy 83 = .ok (.ifCond .eq 29, 3) := by decide +kernel
theorem dX11_printGreedy_86 : decode cX11_printGreedy 86 = .ok (.aload_n 0, 1) := by decide +kernel
theorem dX11_printGreedy_87 : decode cX11_printGreedy 87 = .ok (.getfield 140, 3) := by decide +kernel
theorem dX11_printGreedy_90 : decode cX11_printGreedy 90 = .ok (.aload_n 0, 1) := by decide +kernel
theorem dX11_printGreedy_91 : decode cX11_printGreedy 91 = .ok (.getfield 332, 3) := by decide +kernel
theorem dX11_printGreedy_94 : decode cX11_printGreedy 94 = .ok (.iconst 1, 1) := by decide +kernel
theorem dX11_printGreedy_95 : decode cX11_printGreedy 95 = .ok (.isub, 1) := by decide +kernel
theorem dX11_printGreedy_96 : decode cX11_printGreedy 96 = .ok (.aload_n 0, 1) := by decide +kernel
theorem dX11_printGreedy_97 : decode cX11_printGreedy 97 = .ok (.invokevirtual 429, 3) := by decide +kernel
theorem dX11_printGreedy_100 : decode cX11_printGreedy 100 = .ok (.ifCond .eq 7, 3) := by decide +kernel
theorem dX11_printGreedy_103 : decode cX11_printGreedy 103 = .ok (.iconst 0, 1) := by decide +kernel
theorem dX11_printGreedy_104 : decode cX11_printGreedy 104 = .ok (.goto 4, 3) := by decide +kernel
theorem dX11_printGreedy_107 : decode cX11_printGreedy 107 = .ok (.iconst 1, 1) := by decide +kernel
theorem dX11_printGreedy_108 : decode cX11_printGreedy 108 = .ok (.iastore, 1) := by decide +kernel
theorem dX11_printGreedy_109 : decode cX11_printGreedy 109 = .ok (.goto (-82), 3) := by decide +kernel
theorem dX11_printGreedy_112 : decode cX11_printGreedy 112 = .ok (.aload_n 0, 1) := by decide +kernel
theorem dX11_printGreedy_113 : decode cX11_printGreedy 113 = .ok (.dup, 1) := by decide +kernel
theorem dX11_printGreedy_114 : decode cX11_printGreedy 114 = .ok (.getfield 332, 3) := by decide +kernel
theorem dX11_printGreedy_117 : decode cX11_printGreedy 117 = .ok (.iconst 1, 1) := by decide +kernel
theorem dX11_printGreedy_118 : decode cX11_printGreedy 118 = .ok (.isub, 1) := by decide +kernel
theorem dX11_printGreedy_119 : decode cX11_printGreedy 119 = .ok (.putfield 332, 3) := by decide +kernel
theorem dX11_printGreedy_122 : decode cX11_printGreedy 122 = .ok (.goto (-95), 3) := by decide +kernel
theorem dX11_printGreedy_125 : decode cX11_printGreedy 125 = .ok (.aload_n 0, 1) := by decide +kernel
theorem dX11_printGreedy_126 : decode cX11_printGreedy 126 = .ok (.sipush 1000, 3) := by decide +kernel
theorem dX11_printGreedy_129 : decode cX11_printGreedy 129 = .ok (.iconst 0, 1) := by decide +kernel
theorem dX11_printGreedy_130 : decode cX11_printGreedy 130 = .ok (.invokevirtual 395, 3) := by decide +kernel
theorem dX11_printGreedy_133 : decode cX11_printGreedy 133 = .ok (.aload_n 0, 1) := by decide +kernel
theorem dX11_printGreedy_134 : decode cX11_printGreedy 134 = .ok (.aload_n 0, 1) := by decide +kernel
theorem dX11_printGreedy_135 : decode cX11_printGreedy 135 = .ok (.getfield 335, 3) := by decide +kernel
theorem dX11_printGreedy_138 : decode cX11_printGreedy 138 = .ok (.ifCond .eq 7, 3) := by decide +kernel
theorem dX11_printGreedy_141 : decode cX11_printGreedy 141 = .ok (.iconst 3, 1) := by decide +kernel
theorem dX11_printGreedy_142 : decode cX11_printGreedy 142 = .ok (.goto 4, 3) := by decide +kernel
theorem dX11_printGreedy_145 : decode cX11_printGreedy 145 = .ok (.iconst 0, 1) := by decide +kernel
theorem dX11_printGreedy_146 : decode cX11_printGreedy 146 = .ok (.putfield 192, 3) := by decide +kernel
theorem dX11_printGreedy_149 : decode cX11_printGreedy 149 = .ok (.aload_n 0, 1) := by decide +kernel
theorem dX11_printGreedy_150 : decode cX11_printGreedy 150 = .ok (.getfield 192, 3) := by decide +kernel
theorem dX11_printGreedy_153 : decode cX11_printGreedy 153 = .ok (.ifCond .ne 10, 3) := by decide +kernel
theorem dX11_printGreedy_156 : decode cX11_printGreedy 156 = .ok (.aload_n 0, 1) := by decide +kernel
theorem dX11_printGreedy_157 : decode cX11_printGreedy 157 = .ok (.invokevirtual 410, 3) := by decide +kernel
theorem dX11_printGreedy_160 : decode cX11_printGreedy 160 = .ok (.goto 4, 3) := by decide +kernel
theorem dX11_printGreedy_163 : decode cX11_printGreedy 163 = .ok (.iconst 0, 1) := by decide +kernel
theorem dX11_printGreedy_164 : decode cX11_printGreedy 164 = .ok (.ireturn, 1) := by decide +kernel
set_option maxRecDepth 20000 in
theorem ggX11_isLine_X11_in : GoodIn wsX11_isLine wsX11_in := goodIn_r _ [6] (by decide +kernel) (by decide +kernel)
set_option maxRecDepth 20000 in
theorem gX11_isLine_X11_in : GoodIn wsX11_isLine (va_wsS RX11 195 yX11_in wsX11_in) := goodIn_app (goodIn_of _ (by decide +kernel)) ggX11_isLine_X11_in
theorem dX11_isLine_0 : decode cX11_isLine 0 = .ok (.aload_n 0, 1) := by decide +kernel
theorem dX11_isLine_1 : decode cX11_isLine 1 = .ok (.iload_n 1, 1) := by decide +kernel
theorem dX11_isLine_2 : decode cX11_isLine 2 = .ok (.iconst 0, 1) := by decide +kernel
theorem dX11_isLine_3 : decode cX11_isLine 3 = .ok (.aload_n 0, 1) := by decide +kernel
theorem dX11_isLine_4 : decode cX11_isLine 4 = .ok (.getfield 398, 3) := by decide +kernel
theorem dX11_isLine_7 : decode cX11_isLine 7 = .ok (.iconst 1, 1) := by decide +kernel
theorem dX11_isLine_8 : decode cX11_isLine 8 = .ok (.isub, 1) := by decide +kernel
theorem dX11_isLine_9 : decode cX11_isLine 9 = .ok (.invokestatic 195, 3) := by decide +kernel
theorem dX11_isLine_12 : decode cX11_isLine 12 = .ok (.ifCond .eq 7, 3) := by decide +kernel
theorem dX11_isLine_15 : decode cX11_isLine 15 = .ok (.iconst 0, 1) := by decide +kernel
theorem dX11_isLine_16 : decode cX11_isLine 16 = .ok (.goto 4, 3) := by decide +kernel
theorem dX11_isLine_19 : decode cX11_isLine 19 = .ok (.iconst 1, 1) := by decide +kernel
theorem dX11_isLine_20 : decode cX11_isLine 20 = .ok (.putfield 192, 3) := by decide +kernel
theorem dX11_isLine_23 : decode cX11_isLine 23 = .ok (.aload_n 0, 1) := by decide +kernel
theorem dX11_isLine_24 : decode cX11_isLine 24 = .ok (.getfield 192, 3) := by decide +kernel
theorem dX11_isLine_27 : decode cX11_isLine 27 = .ok (.ifCond .ne 7, 3) := by decide +kernel
theorem dX11_isLine_30 : decode cX11_isLine 30 = .ok (.iconst 1, 1) := by decide +kernel
theorem dX11_isLine_31 : decode cX11_isLine 31 = .ok (.goto 4, 3) := by decide +kernel
theorem dX11_isLine_34 : decode cX11_isLine 34 = .ok (.iconst 0, 1) := by decide +kernel
theorem dX11_isLine_35 : decode cX11_isLine 35 = .ok (.ireturn, 1) := by decide +kernel
theorem dX11_lines_0 : decode cX11_lines 0 = .ok (.aload_n 0, 1) := by decide +kernel
theorem dX11_lines_1 : decode cX11_lines 1 = .ok (.iconst 0, 1) := by decide +kernel
theorem dX11_lines_2 : decode cX11_lines 2 = .ok (.putfield 192, 3) := by decide +kernel
theorem dX11_lines_5 : decode cX11_lines 5 = .ok (.aload_n 0, 1) := by decide +kernel
theorem dX11_lines_6 : decode cX11_lines 6 = .ok (.getfield 398, 3) := by decide +kernel
theorem dX11_lines_9 : decode cX11_lines 9 = .ok (.ireturn, 1) := by decide +kernel
set_option maxRecDepth 20000 in
theorem ggX11_length_X11_isLine : GoodIn wsX11_length wsX11_isLine := goodIn_r _ [5, 6, 7, 8, 9, 4, 10, 20, 21, 22, 23, 24, 25, 26, 27, 28, 29, 30, 31, 32, 33, 34, 35, 36, 37, 38, 39, 40, 41, 42, 43, 44, 45, 46, 47, 48, 49, 50, 51, 52, 53, 54, 55, 56, 57, 58, 59, 60, 61, 62, 63, 64, 65, 66, 67, 68, 69, 70, 71, 72, 73, 74, 75, 76, 77, 78, 79, 80, 81, 82, 83, 84, 85, 86, 87, 88, 89, 90, 91, 92, 93, 94, 95, 96, 97, 98, 99, 100, 101, 102, 103, 104, 105, 106] (by decide +kernel) (by decide +kernel)
set_option maxRecDepth 20000 in
theorem gX11_length_X11_isLine : GoodIn wsX11_length (wsV RX11 432 RX11 yX11_isLine wsX11_isLine) := goodIn_app (goodIn_of _ (by decide +kernel)) ggX11_length_X11_isLine
theorem dX11_length_0 : decode cX11_length 0 = .ok (.aload_n 0, 1) := by decide +kernel
theorem dX11_length_1 : decode cX11_length 1 = .ok (.iload_n 1, 1) := by decide +kernel
theorem dX11_length_2 : decode cX11_length 2 = .ok (.invokevirtual 432, 3) := by decide +kernel
theorem dX11_length_5 : decode cX11_length 5 = .ok (.ifCond .eq 11, 3) := by decide +kernel
theorem dX11_length_8 : decode cX11_length 8 = .ok (.aload_n 0, 1) := by decide +kernel
theorem dX11_length_9 : decode cX11_length 9 = .ok (.iload_n 1, 1) := by decide +kernel
theorem dX11_length_10 : decode cX11_length 10 = .ok (.invokevirtual 435, 3) := by decide +kernel
theorem dX11_length_13 : decode cX11_length 13 = .ok (.goto 4, 3) := by decide +kernel
theorem dX11_length_16 : decode cX11_length 16 = .ok (.iconst 0, 1) := by decide +kernel
theorem dX11_length_17 : decode cX11_length 17 = .ok (.ireturn, 1) := by decide +kernel
set_option maxRecDepth 20000 in
theorem ggX11_isPlace_X11_in : GoodIn wsX11_isPlace wsX11_in := goodIn_r _ [6] (by decide +kernel) (by decide +kernel)
set_option maxRecDepth 20000 in
theorem gX11_isPlace_X11_in : GoodIn wsX11_isPlace (va_wsS RX11 195 yX11_in wsX11_in) := goodIn_app (goodIn_of _ (by decide +kernel)) ggX11_isPlace_X11_in
theorem dX11_isPlace_0 : decode cX11_isPlace 0 = .ok (.aload_n 0, 1) := by decide +kernel
theorem dX11_isPlace_1 : decode cX11_isPlace 1 = .ok (.iload_n 1, 1) := by decide +kernel
theorem dX11_isPlace_2 : decode cX11_isPlace 2 = .ok (.iconst 0, 1) := by decide +kernel
theorem dX11_isPlace_3 : decode cX11_isPlace 3 = .ok (.aload_n 0, 1) := by decide +kernel
theorem dX11_isPlace_4 : decode cX11_isPlace 4 = .ok (.getfield 398, 3) := by decide +kernel
theorem dX11_isPlace_7 : decode cX11_isPlace 7 = .ok (.iconst 1, 1) := by decide +kernel
theorem dX11_isPlace_8 : decode cX11_isPlace 8 = .ok (.isub, 1) := by decide +kernel
theorem dX11_isPlace_9 : decode cX11_isPlace 9 = .ok (.invokestatic 195, 3) := by decide +kernel
theorem dX11_isPlace_12 : decode cX11_isPlace 12 = .ok (.ifCond .eq 22, 3) := by decide +kernel
theorem dX11_isPlace_15 : decode cX11_isPlace 15 = .ok (.iload_n 2, 1) := by decide +kernel
theorem dX11_isPlace_16 : decode cX11_isPlace 16 = .ok (.iconst 0, 1) := by decide +kernel
theorem dX11_isPlace_17 : decode cX11_isPlace 17 = .ok (.aload_n 0, 1) := by decide +kernel
theorem dX11_isPlace_18 : decode cX11_isPlace 18 = .ok (.iload_n 1, 1) := by decide +kernel
theorem dX11_isPlace_19 : decode cX11_isPlace 19 = .ok (.invokevirtual 435, 3) := by decide +kernel
theorem dX11_isPlace_22 : decode cX11_isPlace 22 = .ok (.iconst 1, 1) := by decide +kernel
theorem dX11_isPlace_23 : decode cX11_isPlace 23 = .ok (.isub, 1) := by decide +kernel
theorem dX11_isPlace_24 : decode cX11_isPlace 24 = .ok (.invokestatic 195, 3) := by decide +kernel
theorem dX11_isPlace_27 : decode cX11_isPlace 27 = .ok (.ifCond .eq 7, 3) := by decide +kernel
theorem dX11_isPlace_30 : decode cX11_isPlace 30 = .ok (.iconst 0, 1) := by decide +kernel
theorem dX11_isPlace_31 : decode cX11_isPlace 31 = .ok (.goto 4, 3) := by decide +kernel
theorem dX11_isPlace_34 : decode cX11_isPlace 34 = .ok (.iconst 1, 1) := by decide +kernel
theorem dX11_isPlace_35 : decode cX11_isPlace 35 = .ok (.putfield 192, 3) := by decide +kernel
theorem dX11_isPlace_38 : decode cX11_isPlace 38 = .ok (.aload_n 0, 1) := by decide +kernel
theorem dX11_isPlace_39 : decode cX11_isPlace 39 = .ok (.getfield 192, 3) := by decide +kernel
theorem dX11_isPlace_42 : decode cX11_isPlace 42 = .ok (.ifCond .ne 7, 3) := by decide +kernel
theorem dX11_isPlace_45 : decode cX11_isPlace 45 = .ok (.iconst 1, 1) := by decide +kernel
theorem dX11_isPlace_46 : decode cX11_isPlace 46 = .ok (.goto 4, 3) := by decide +kernel
theorem dX11_isPlace_49 : decode cX11_isPlace 49 = .ok (.iconst 0, 1) := by decide +kernel
theorem dX11_isPlace_50 : decode cX11_isPlace 50 = .ok (.ireturn, 1) := by decide +kernel
set_option maxRecDepth 20000 in
theorem ggX11_signAt_X11_isPlace : GoodIn wsX11_signAt wsX11_isPlace := goodIn_ca (goodIn_r _ [8, 9, 10, 11, 12, 7, 13, 14, 15, 16, 17, 18, 19, 20, 21, 1, 26, 27, 28, 29, 30, 31, 32, 33, 34, 35, 36, 37, 38, 39, 40, 41, 42, 43, 44, 45, 46, 47, 48, 49, 50, 51, 52, 53, 54, 55, 56, 57, 58, 59, 60, 61, 62, 63, 64, 65, 66, 67, 68, 69, 70, 71, 72, 73, 74, 75, 76, 77, 78, 79, 80, 81, 82, 83, 84, 85, 86, 87, 88, 89, 90, 91, 92, 93, 94, 95, 96, 97, 98, 99, 100, 101, 102, 103, 104, 105, 106, 107, 108, 109, 110, 111, 112] (by decide +kernel) (by decide +kernel)) (goodIn_sub (fun _ h => List.mem_cons_of_mem _ (List.mem_append_right _ h)) (by decide +kernel))
set_option maxRecDepth 20000 in
theorem gX11_signAt_X11_isPlace : GoodIn wsX11_signAt (wsV RX11 438 RX11 yX11_isPlace wsX11_isPlace) := goodIn_app (goodIn_of _ (by decide +kernel)) ggX11_signAt_X11_isPlace
theorem dX11_signAt_0 : decode cX11_signAt 0 = .ok (.aload_n 0, 1) := by decide +kernel
theorem dX11_signAt_1 : decode cX11_signAt 1 = .ok (.iload_n 1, 1) := by decide +kernel
theorem dX11_signAt_2 : decode cX11_signAt 2 = .ok (.iload_n 2, 1) := by decide +kernel
theorem dX11_signAt_3 : decode cX11_signAt 3 = .ok (.invokevirtual 438, 3) := by decide +kernel
theorem dX11_signAt_6 : decode cX11_signAt 6 = .ok (.ifCond .ne 5, 3) := by decide +kernel
theorem dX11_signAt_9 : decode cX11_signAt 9 = .ok (.iconst 0, 1) := by decide +kernel
theorem dX11_signAt_10 : decode cX11_signAt 10 = .ok (.ireturn, 1) := by decide +kernel
theorem dX11_signAt_11 : decode cX11_signAt 11 = .ok (.aload_n 0, 1) := by decide +kernel
theorem dX11_signAt_12 : decode cX11_signAt 12 = .ok (.iload_n 1, 1) := by decide +kernel
theorem dX11_signAt_13 : decode cX11_signAt 13 = .ok (.iload_n 2, 1) := by decide +kernel
theorem dX11_signAt_14 : decode cX11_signAt 14 = .ok (.invokevirtual 441, 3) := by decide +kernel
theorem dX11_signAt_17 : decode cX11_signAt 17 = .ok (.istore_n 3, 1) := by decide +kernel
theorem dX11_signAt_18 : decode cX11_signAt 18 = .ok (.iload_n 3, 1) := by decide +kernel
theorem dX11_signAt_19 : decode cX11_signAt 19 = .ok (.iconst (-1), 1) := by decide +kernel
theorem dX11_signAt_20 : decode cX11_signAt 20 = .ok (.if_icmp .ne 6, 3) := by decide +kernel
theorem dX11_signAt_23 : decode cX11_signAt 23 = .ok (.bipush 32, 2) := by decide +kernel
theorem dX11_signAt_25 : decode cX11_signAt 25 = .ok (.ireturn, 1) := by decide +kernel
theorem dX11_signAt_26 : decode cX11_signAt 26 = .ok (.aload_n 0, 1) := by decide +kernel
theorem dX11_signAt_27 : decode cX11_signAt 27 = .ok (.getfield 152, 3) := by decide +kernel
theorem dX11_signAt_30 : decode cX11_signAt 30 = .ok (.iload_n 3, 1) := by decide +kernel
theorem dX11_signAt_31 : decode cX11_signAt 31 = .ok (.iaload, 1) := by decide +kernel
theorem dX11_signAt_32 : decode cX11_signAt 32 = .ok (.istore 4, 2) := by decide +kernel
theorem dX11_signAt_34 : decode cX11_signAt 34 = .ok (.aload_n 0, 1) := by decide +kernel
theorem dX11_signAt_35 : decode cX11_signAt 35 = .ok (.getfield 7, 3) := by decide +kernel
theorem dX11_signAt_38 : decode cX11_signAt 38 = .ok (.iload 4, 2) := by decide +kernel
theorem dX11_signAt_40 : decode cX11_signAt 40 = .ok (.iaload, 1) := by decide +kernel
theorem dX11_signAt_41 : decode cX11_signAt 41 = .ok (.ifCond .ne 8, 3) := by decide +kernel
theorem dX11_signAt_44 : decode cX11_signAt 44 = .ok (.bipush 97, 2) := by decide +kernel
theorem dX11_signAt_46 : decode cX11_signAt 46 = .ok (.goto 5, 3) := by decide +kernel
theorem dX11_signAt_49 : decode cX11_signAt 49 = .ok (.bipush 65, 2) := by decide +kernel
theorem dX11_signAt_51 : decode cX11_signAt 51 = .ok (.aload_n 0, 1) := by decide +kernel
theorem dX11_signAt_52 : decode cX11_signAt 52 = .ok (.getfield 13, 3) := by decide +kernel
theorem dX11_signAt_55 : decode cX11_signAt 55 = .ok (.iload 4, 2) := by decide +kernel
theorem dX11_signAt_57 : decode cX11_signAt 57 = .ok (.iaload, 1) := by decide +kernel
theorem dX11_signAt_58 : decode cX11_signAt 58 = .ok (.iadd, 1) := by decide +kernel
theorem dX11_signAt_59 : decode cX11_signAt 59 = .ok (.i2c, 1) := by decide +kernel
theorem dX11_signAt_60 : decode cX11_signAt 60 = .ok (.ireturn, 1) := by decide +kernel
set_option maxRecDepth 20000 in
theorem ggX11_nodeAt_X11_isPlace : GoodIn wsX11_nodeAt wsX11_isPlace := goodIn_ca (goodIn_r _ [6, 7, 8, 9, 10, 5, 11, 12, 13, 14, 15, 16, 17, 18, 19, 1, 24, 25, 26, 27, 28, 29, 30, 31, 32, 33, 34, 35, 36, 37, 38, 39, 40, 41, 42, 43, 44, 45, 46, 47, 48, 49, 50, 51, 52, 53, 54, 55, 56, 57, 58, 59, 60, 61, 62, 63, 64, 65, 66, 67, 68, 69, 70, 71, 72, 73, 74, 75, 76, 77, 78, 79, 80, 81, 82, 83, 84, 85, 86, 87, 88, 89, 90, 91, 92, 93, 94, 95, 96, 97, 98, 99, 100, 101, 102, 103, 104, 105, 106, 107, 108, 109, 110] (by decide +kernel) (by decide +kernel)) (goodIn_sub (fun _ h => List.mem_cons_of_mem _ (List.mem_append_right _ h)) (by decide +kernel))
set_option maxRecDepth 20000 in
theorem gX11_nodeAt_X11_isPlace : GoodIn wsX11_nodeAt (wsV RX11 438 RX11 yX11_isPlace wsX11_isPlace) := goodIn_app (goodIn_of _ (by decide +kernel)) ggX11_nodeAt_X11_isPlace
theorem dX11_nodeAt_0 : decode cX11_nodeAt 0 = .ok (.aload_n 0, 1) := by decide +kernel
theorem dX11_nodeAt_1 : decode cX11_nodeAt 1 = .ok (.iload_n 1, 1) := by decide +kernel
theorem dX11_nodeAt_2 : decode cX11_nodeAt 2 = .ok (.iload_n 2, 1) := by decide +kernel
theorem dX11_nodeAt_3 : decode cX11_nodeAt 3 = .ok (.invokevirtual 438, 3) := by decide +kernel
theorem dX11_nodeAt_6 : decode cX11_nodeAt 6 = .ok (.ifCond .ne 5, 3) := by decide +kernel
theorem dX11_nodeAt_9 : decode cX11_nodeAt 9 = .ok (.iconst 0, 1) := by decide +kernel
theorem dX11_nodeAt_10 : decode cX11_nodeAt 10 = .ok (.ireturn, 1) := by decide +kernel
theorem dX11_nodeAt_11 : decode cX11_nodeAt 11 = .ok (.aload_n 0, 1) := by decide +kernel
theorem dX11_nodeAt_12 : decode cX11_nodeAt 12 = .ok (.iload_n 1, 1) := by decide +kernel
theorem dX11_nodeAt_13 : decode cX11_nodeAt 13 = .ok (.iload_n 2, 1) := by decide +kernel
theorem dX11_nodeAt_14 : decode cX11_nodeAt 14 = .ok (.invokevirtual 441, 3) := by decide +kernel
theorem dX11_nodeAt_17 : decode cX11_nodeAt 17 = .ok (.istore_n 3, 1) := by decide +kernel
theorem dX11_nodeAt_18 : decode cX11_nodeAt 18 = .ok (.iload_n 3, 1) := by decide +kernel
theorem dX11_nodeAt_19 : decode cX11_nodeAt 19 = .ok (.iconst (-1), 1) := by decide +kernel
theorem dX11_nodeAt_20 : decode cX11_nodeAt 20 = .ok (.if_icmp .ne 7, 3) := by decide +kernel
theorem dX11_nodeAt_23 : decode cX11_nodeAt 23 = .ok (.iconst (-1), 1) := by decide +kernel
theorem dX11_nodeAt_24 : decode cX11_nodeAt 24 = .ok (.goto 9, 3) := by decide +kernel
theorem dX11_nodeAt_27 : decode cX11_nodeAt 27 = .ok (.aload_n 0, 1) := by decide +kernel
theorem dX11_nodeAt_28 : decode cX11_nodeAt 28 = .ok (.getfield 152, 3) := by decide +kernel
theorem dX11_nodeAt_31 : decode cX11_nodeAt 31 = .ok (.iload_n 3, 1) := by decide +kernel
theorem dX11_nodeAt_32 : decode cX11_nodeAt 32 = .ok (.iaload, 1) := by decide +kernel
theorem dX11_nodeAt_33 : decode cX11_nodeAt 33 = .ok (.ireturn, 1) := by decide +kernel
set_option maxRecDepth 20000 in
theorem ggX11_placeOf_X11_isNode : GoodIn wsX11_placeOf wsX11_isNode := goodIn_r _ [8, 9, 10, 11, 7, 12, 13, 14, 15, 16, 17, 18, 19, 20, 21, 22, 23, 24, 25, 26, 27, 28, 29, 30, 31, 32, 33, 34, 35, 36, 37, 38, 39, 40, 41, 42, 43, 44, 45, 46, 47, 48, 49, 50, 51, 52, 53, 54, 55, 56, 57, 58, 59, 60, 61, 62, 63, 64, 65, 66, 67, 68, 69, 70, 71, 72, 73, 74, 75, 76, 77, 78, 79, 80, 81, 82, 83, 84, 85, 86, 87, 88, 89, 90, 91, 92, 93, 94, 95, 96, 97, 98, 99] (by decide +kernel) (by decide +kernel)
set_option maxRecDepth 20000 in
theorem gX11_placeOf_X11_isNode : GoodIn wsX11_placeOf (wsV RX11 222 RX11 yX11_isNode wsX11_isNode) := goodIn_app (goodIn_of _ (by decide +kernel)) ggX11_placeOf_X11_isNode
theorem dX11_placeOf_0 : decode cX11_placeOf 0 = .ok (.aload_n 0, 1) := by decide +kernel
theorem dX11_placeOf_1 : decode cX11_placeOf 1 = .ok (.aload_n 0, 1) := by decide +kernel
theorem dX11_placeOf_2 : decode cX11_placeOf 2 = .ok (.iload_n 1, 1) := by decide +kernel
theorem dX11_placeOf_3 : decode cX11_placeOf 3 = .ok (.invokevirtual 222, 3) := by decide +kernel
theorem dX11_placeOf_6 : decode cX11_placeOf 6 = .ok (.ifCond .eq 7, 3) := by decide +kernel
theorem dX11_placeOf_9 : decode cX11_placeOf 9 = .ok (.iconst 0, 1) := by decide +kernel
theorem dX11_placeOf_10 : decode cX11_placeOf 10 = .ok (.goto 4, 3) := by decide +kernel
theorem dX11_placeOf_13 : decode cX11_placeOf 13 = .ok (.iconst 1, 1) := by decide +kernel
theorem dX11_placeOf_14 : decode cX11_placeOf 14 = .ok (.putfield 192, 3) := by decide +kernel
theorem dX11_placeOf_17 : decode cX11_placeOf 17 = .ok (.aload_n 0, 1) := by decide +kernel
theorem dX11_placeOf_18 : decode cX11_placeOf 18 = .ok (.getfield 192, 3) := by decide +kernel
theorem dX11_placeOf_21 : decode cX11_placeOf 21 = .ok (.ifCond .le 7, 3) := by decide +kernel
theorem dX11_placeOf_24 : decode cX11_placeOf 24 = .ok (.iconst 0, 1) := by decide +kernel
theorem dX11_placeOf_25 : decode cX11_placeOf 25 = .ok (.goto 20, 3) := by decide +kernel
theorem dX11_placeOf_28 : decode cX11_placeOf 28 = .ok (.aload_n 0, 1) := by decide +kernel
theorem dX11_placeOf_29 : decode cX11_placeOf 29 = .ok (.getfield 398, 3) := by decide +kernel
theorem dX11_placeOf_32 : decode cX11_placeOf 32 = .ok (.ifCond .ne 7, 3) := by decide +kernel
theorem dX11_placeOf_35 : decode cX11_placeOf 35 = .ok (.iconst (-1), 1) := by decide +kernel
theorem dX11_placeOf_36 : decode cX11_placeOf 36 = .ok (.goto 9, 3) := by decide +kernel
theorem dX11_placeOf_39 : decode cX11_placeOf 39 = .ok (.aload_n 0, 1) := by decide +kernel
theorem dX11_placeOf_40 : decode cX11_placeOf 40 = .ok (.getfield 155, 3) := by decide +kernel
theorem dX11_placeOf_43 : decode cX11_placeOf 43 = .ok (.iload_n 1, 1) := by decide +kernel
theorem dX11_placeOf_44 : decode cX11_placeOf 44 = .ok (.iaload, 1) := by decide +kernel
theorem dX11_placeOf_45 : decode cX11_placeOf 45 = .ok (.ireturn, 1) := by decide +kernel
theorem dX11_decisions_0 : decode cX11_decisions 0 = .ok (.aload_n 0, 1) := by decide +kernel
theorem dX11_decisions_1 : decode cX11_decisions 1 = .ok (.iconst 0, 1) := by decide +kernel
theorem dX11_decisions_2 : decode cX11_decisions 2 = .ok (.putfield 192, 3) := by decide +kernel
theorem dX11_decisions_5 : decode cX11_decisions 5 = .ok (.aload_n 0, 1) := by decide +kernel
theorem dX11_decisions_6 : decode cX11_decisions 6 = .ok (.getfield 401, 3) := by decide +kernel
theorem dX11_decisions_9 : decode cX11_decisions 9 = .ok (.ireturn, 1) := by decide +kernel
set_option maxRecDepth 20000 in
theorem ggX11_wayAt_X11_in : GoodIn wsX11_wayAt wsX11_in := goodIn_r _ [7] (by decide +kernel) (by decide +kernel)
set_option maxRecDepth 20000 in
theorem gX11_wayAt_X11_in : GoodIn wsX11_wayAt (va_wsS RX11 195 yX11_in wsX11_in) := goodIn_app (goodIn_of _ (by decide +kernel)) ggX11_wayAt_X11_in
theorem dX11_wayAt_0 : decode cX11_wayAt 0 = .ok (.aload_n 0, 1) := by decide +kernel
theorem dX11_wayAt_1 : decode cX11_wayAt 1 = .ok (.iload_n 1, 1) := by decide +kernel
theorem dX11_wayAt_2 : decode cX11_wayAt 2 = .ok (.iconst 0, 1) := by decide +kernel
theorem dX11_wayAt_3 : decode cX11_wayAt 3 = .ok (.aload_n 0, 1) := by decide +kernel
theorem dX11_wayAt_4 : decode cX11_wayAt 4 = .ok (.getfield 401, 3) := by decide +kernel
theorem dX11_wayAt_7 : decode cX11_wayAt 7 = .ok (.iconst 1, 1) := by decide +kernel
theorem dX11_wayAt_8 : decode cX11_wayAt 8 = .ok (.isub, 1) := by decide +kernel
theorem dX11_wayAt_9 : decode cX11_wayAt 9 = .ok (.invokestatic 195, 3) := by decide +kernel
theorem dX11_wayAt_12 : decode cX11_wayAt 12 = .ok (.ifCond .eq 7, 3) := by decide +kernel
theorem dX11_wayAt_15 : decode cX11_wayAt 15 = .ok (.iconst 0, 1) := by decide +kernel
theorem dX11_wayAt_16 : decode cX11_wayAt 16 = .ok (.goto 4, 3) := by decide +kernel
theorem dX11_wayAt_19 : decode cX11_wayAt 19 = .ok (.iconst 1, 1) := by decide +kernel
theorem dX11_wayAt_20 : decode cX11_wayAt 20 = .ok (.putfield 192, 3) := by decide +kernel
theorem dX11_wayAt_23 : decode cX11_wayAt 23 = .ok (.aload_n 0, 1) := by decide +kernel
theorem dX11_wayAt_24 : decode cX11_wayAt 24 = .ok (.getfield 192, 3) := by decide +kernel
theorem dX11_wayAt_27 : decode cX11_wayAt 27 = .ok (.ifCond .ne 12, 3) := by decide +kernel
theorem dX11_wayAt_30 : decode cX11_wayAt 30 = .ok (.aload_n 0, 1) := by decide +kernel
theorem dX11_wayAt_31 : decode cX11_wayAt 31 = .ok (.getfield 158, 3) := by decide +kernel
theorem dX11_wayAt_34 : decode cX11_wayAt 34 = .ok (.iload_n 1, 1) := by decide +kernel
theorem dX11_wayAt_35 : decode cX11_wayAt 35 = .ok (.iaload, 1) := by decide +kernel
theorem dX11_wayAt_36 : decode cX11_wayAt 36 = .ok (.goto 4, 3) := by decide +kernel
theorem dX11_wayAt_39 : decode cX11_wayAt 39 = .ok (.iconst 0, 1) := by decide +kernel
theorem dX11_wayAt_40 : decode cX11_wayAt 40 = .ok (.ireturn, 1) := by decide +kernel
set_option maxRecDepth 20000 in
theorem ggX11_breakPages_X11_in : GoodIn wsX11_breakPages wsX11_in := goodIn_r _ [11] (by decide +kernel) (by decide +kernel)
set_option maxRecDepth 20000 in
theorem gX11_breakPages_X11_in : GoodIn wsX11_breakPages (va_wsS RX11 195 yX11_in wsX11_in) := goodIn_app (goodIn_of _ (by decide +kernel)) ggX11_breakPages_X11_in
theorem dX11_breakPages_0 : decode cX11_breakPages 0 = .ok (.aload_n 0, 1) := by decide +kernel
theorem dX11_breakPages_1 : decode cX11_breakPages 1 = .ok (.iload_n 1, 1) := by decide +kernel
theorem dX11_breakPages_2 : decode cX11_breakPages 2 = .ok (.iconst 1, 1) := by decide +kernel
theorem dX11_breakPages_3 : decode cX11_breakPages 3 = .ok (.bipush 20, 2) := by decide +kernel
theorem dX11_breakPages_5 : decode cX11_breakPages 5 = .ok (.invokestatic 195, 3) := by decide +kernel
theorem dX11_breakPages_8 : decode cX11_breakPages 8 = .ok (.ifCond .ne 7, 3) := by decide +kernel
theorem dX11_breakPages_11 : decode cX11_breakPages 11 = .ok (.iconst 1, 1) := by decide +kernel
theorem dX11_breakPages_12 : decode cX11_breakPages 12 = .ok (.goto 15, 3) := by decide +kernel
theorem dX11_breakPages_15 : decode cX11_breakPages 15 = .ok (.aload_n 0, 1) := by decide +kernel
theorem dX11_breakPages_16 : decode cX11_breakPages 16 = .ok (.getfield 398, 3) := by decide +kernel
theorem dX11_breakPages_19 : decode cX11_breakPages 19 = .ok (.ifCond .ne 7, 3) := by decide +kernel
theorem dX11_breakPages_22 : decode cX11_breakPages 22 = .ok (.iconst 2, 1) := by decide +kernel
theorem dX11_breakPages_23 : decode cX11_breakPages 23 = .ok (.goto 4, 3) := by decide +kernel
theorem dX11_breakPages_26 : decode cX11_breakPages 26 = .ok (.iconst 0, 1) := by decide +kernel
theorem dX11_breakPages_27 : decode cX11_breakPages 27 = .ok (.putfield 192, 3) := by decide +kernel
theorem dX11_breakPages_30 : decode cX11_breakPages 30 = .ok (.aload_n 0, 1) := by decide +kernel
theorem dX11_breakPages_31 : decode cX11_breakPages 31 = .ok (.getfield 192, 3) := by decide +kernel
theorem dX11_breakPages_34 : decode cX11_breakPages 34 = .ok (.ifCond .le 5, 3) := by decide +kernel
theorem dX11_breakPages_37 : decode cX11_breakPages 37 = .ok (.iconst 0, 1) := by decide +kernel
theorem dX11_breakPages_38 : decode cX11_breakPages 38 = .ok (.ireturn, 1) := by decide +kernel
theorem dX11_breakPages_39 : decode cX11_breakPages 39 = .ok (.aload_n 0, 1) := by decide +kernel
theorem dX11_breakPages_40 : decode cX11_breakPages 40 = .ok (.getfield 179, 3) := by decide +kernel
theorem dX11_breakPages_43 : decode cX11_breakPages 43 = .ok (.aload_n 0, 1) := by decide +kernel
theorem dX11_breakPages_44 : decode cX11_breakPages 44 = .ok (.getfield 398, 3) := by decide +kernel
theorem dX11_breakPages_47 : decode cX11_breakPages 47 = .ok (.iconst 0, 1) := by decide +kernel
theorem dX11_breakPages_48 : decode cX11_breakPages 48 = .ok (.iastore, 1) := by decide +kernel
theorem dX11_breakPages_49 : decode cX11_breakPages 49 = .ok (.aload_n 0, 1) := by decide +kernel
theorem dX11_breakPages_50 : decode cX11_breakPages 50 = .ok (.getfield 182, 3) := by decide +kernel
theorem dX11_breakPages_53 : decode cX11_breakPages 53 = .ok (.aload_n 0, 1) := by decide +kernel
theorem dX11_breakPages_54 : decode cX11_breakPages 54 = .ok (.getfield 398, 3) := by decide +kernel
theorem dX11_breakPages_57 : decode cX11_breakPages 57 = .ok (.iconst 0, 1) := by decide +kernel
theorem dX11_breakPages_58 : decode cX11_breakPages 58 = .ok (.iastore, 1) := by decide +kernel
theorem dX11_breakPages_59 : decode cX11_breakPages 59 = .ok (.aload_n 0, 1) := by decide +kernel
theorem dX11_breakPages_60 : decode cX11_breakPages 60 = .ok (.getfield 398, 3) := by decide +kernel
theorem dX11_breakPages_63 : decode cX11_breakPages 63 = .ok (.iconst 1, 1) := by decide +kernel
theorem dX11_breakPages_64 : decode cX11_breakPages 64 = .ok (.isub, 1) := by decide +kernel
theorem dX11_breakPages_65 : decode cX11_breakPages 65 = .ok (.istore_n 2, 1) := by decide +kernel
theorem dX11_breakPages_66 : decode cX11_breakPages 66 = .ok (.iload_n 2, 1) := by decide +kernel
theorem dX11_breakPages_67 : decode cX11_breakPages 67 = .ok (.ifCond .lt 183, 3) := by decide +kernel
theorem dX11_breakPages_70 : decode cX11_breakPages 70 = .ok (.aload_n 0, 1) := by decide +kernel
theorem dX11_breakPages_71 : decode cX11_breakPages 71 = .ok (.getfield 185, 3) := by decide +kernel
theorem dX11_breakPages_74 : decode cX11_breakPages 74 = .ok (.iload_n 2, 1) := by decide +kernel
theorem dX11_breakPages_75 : decode cX11_breakPages 75 = .ok (.iconst 0, 1) := by decide +kernel
theorem dX11_breakPages_76 : decode cX11_breakPages 76 = .ok (.iastore, 1) := by decide +kernel
theorem dX11_breakPages_77 : decode cX11_breakPages 77 = .ok (.iconst 1, 1) := by decide +kernel
theorem dX11_breakPages_78 : decode cX11_breakPages 78 = .ok (.istore_n 3, 1) := by decide +kernel
theorem dX11_breakPages_79 : decode cX11_breakPages 79 = .ok (.iload_n 3, 1) := by decide +kernel
theorem dX11_breakPages_80 : decode cX11_breakPages 80 = .ok (.iload_n 1, 1) := by decide +kernel
theorem dX11_breakPages_81 : decode cX11_breakPages 81 = .ok (.if_icmp .gt 163, 3) := by decide +kernel
theorem dX11_breakPages_84 : decode cX11_breakPages 84 = .ok (.iload_n 2, 1) := by decide +kernel
theorem dX11_breakPages_85 : decode cX11_breakPages 85 = .ok (.iload_n 3, 1) := by decide +kernel
theorem dX11_breakPages_86 : decode cX11_breakPages 86 = .ok (.iadd, 1) := by decide +kernel
theorem dX11_breakPages_87 : decode cX11_breakPages 87 = .ok (.aload_n 0, 1) := by decide +kernel
theorem dX11_breakPages_88 : decode cX11_breakPages 88 = .ok (.getfield 398, 3) := by decide +kernel
theorem dX11_breakPages_91 : decode cX11_breakPages 91 = .ok (.if_icmp .gt 153, 3) := by decide +kernel
theorem dX11_breakPages_94 : decode cX11_breakPages 94 = .ok (.iload_n 2, 1) := by decide +kernel
theorem dX11_breakPages_95 : decode cX11_breakPages 95 = .ok (.iload_n 3, 1) := by decide +kernel
theorem dX11_breakPages_96 : decode cX11_breakPages 96 = .ok (.iadd, 1) := by decide +kernel
theorem dX11_breakPages_97 : decode cX11_breakPages 97 = .ok (.istore 4, 2) := by decide +kernel
theorem dX11_breakPages_99 : decode cX11_breakPages 99 = .ok (.iload 4, 2) := by decide +kernel
theorem dX11_breakPages_101 : decode cX11_breakPages 101 = .ok (.aload_n 0, 1) := by decide +kernel
theorem dX11_breakPages_102 : decode cX11_breakPages 102 = .ok (.getfield 398, 3) := by decide +kernel
theorem dX11_breakPages_105 : decode cX11_breakPages 105 = .ok (.if_icmp .ne 7, 3) := by decide +kernel
theorem dX11_breakPages_108 : decode cX11_breakPages 108 = .ok (.iconst 1, 1) := by decide +kernel
theorem dX11_breakPages_109 : decode cX11_breakPages 109 = .ok (.goto 4, 3) := by decide +kernel
theorem dX11_breakPages_112 : decode cX11_breakPages 112 = .ok (.iconst 0, 1) := by decide +kernel
theorem dX11_breakPages_113 : decode cX11_breakPages 113 = .ok (.istore 5, 2) := by decide +kernel
theorem dX11_breakPages_115 : decode cX11_breakPages 115 = .ok (.iload 5, 2) := by decide +kernel
theorem dX11_breakPages_117 : decode cX11_breakPages 117 = .ok (.ifCond .eq 7, 3) := by decide +kernel
theorem dX11_breakPages_120 : decode cX11_breakPages 120 = .ok (.iconst 0, 1) := by decide +kernel
theorem dX11_breakPages_121 : decode cX11_breakPages 121 = .ok (.goto 27, 3) := by decide +kernel
theorem dX11_breakPages_124 : decode cX11_breakPages 124 = .ok (.iload_n 1, 1) := by decide +kernel
theorem dX11_breakPages_125 : decode cX11_breakPages 125 = .ok (.iload_n 3, 1) := by decide +kernel
theorem dX11_breakPages_126 : decode cX11_breakPages 126 = .ok (.isub, 1) := by decide +kernel
theorem dX11_breakPages_127 : decode cX11_breakPages 127 = .ok (.iload_n 1, 1) := by decide +kernel
theorem dX11_breakPages_128 : decode cX11_breakPages 128 = .ok (.iload_n 3, 1) := by decide +kernel
theorem dX11_breakPages_129 : decode cX11_breakPages 129 = .ok (.isub, 1) := by decide +kernel
theorem dX11_breakPages_130 : decode cX11_breakPages 130 = .ok (.imul, 1) := by decide +kernel
theorem dX11_breakPages_131 : decode cX11_breakPages 131 = .ok (.aload_n 0, 1) := by decide +kernel
theorem dX11_breakPages_132 : decode cX11_breakPages 132 = .ok (.iload 4, 2) := by decide +kernel
theorem dX11_breakPages_134 : decode cX11_breakPages 134 = .ok (.iconst 1, 1) := by decide +kernel
theorem dX11_breakPages_135 : decode cX11_breakPages 135 = .ok (.isub, 1) := by decide +kernel
theorem dX11_breakPages_136 : decode cX11_breakPages 136 = .ok (.invokevirtual 444, 3) := by decide +kernel
theorem dX11_breakPages_139 : decode cX11_breakPages 139 = .ok (.iadd, 1) := by decide +kernel
theorem dX11_breakPages_140 : decode cX11_breakPages 140 = .ok (.aload_n 0, 1) := by decide +kernel
theorem dX11_breakPages_141 : decode cX11_breakPages 141 = .ok (.getfield 179, 3) := by decide +kernel
theorem dX11_breakPages_144 : decode cX11_breakPages 144 = .ok (.iload 4, 2) := by decide +kernel
theorem dX11_breakPages_146 : decode cX11_breakPages 146 = .ok (.iaload, 1) := by decide +kernel
theorem dX11_breakPages_147 : decode cX11_breakPages 147 = .ok (.iadd, 1) := by decide +kernel
theorem dX11_breakPages_148 : decode cX11_breakPages 148 = .ok (.istore 6, 2) := by decide +kernel
theorem dX11_breakPages_150 : decode cX11_breakPages 150 = .ok (.iconst 1, 1) := by decide +kernel
theorem dX11_breakPages_151 : decode cX11_breakPages 151 = .ok (.aload_n 0, 1) := by decide +kernel
theorem dX11_breakPages_152 : decode cX11_breakPages 152 = .ok (.getfield 182, 3) := by decide +kernel
theorem dX11_breakPages_155 : decode cX11_breakPages 155 = .ok (.iload 4, 2) := by decide +kernel
theorem dX11_breakPages_157 : decode cX11_breakPages 157 = .ok (.iaload, 1) := by decide +kernel
theorem dX11_breakPages_158 : decode cX11_breakPages 158 = .ok (.iadd, 1) := by decide +kernel
theorem dX11_breakPages_159 : decode cX11_breakPages 159 = .ok (.istore 7, 2) := by decide +kernel
theorem dX11_breakPages_161 : decode cX11_breakPages 161 = .ok (.aload_n 0, 1) := by decide +kernel
theorem dX11_breakPages_162 : decode cX11_breakPages 162 = .ok (.getfield 185, 3) := by decide +kernel
theorem dX11_breakPages_165 : decode cX11_breakPages 165 = .ok (.iload_n 2, 1) := by decide +kernel
theorem dX11_breakPages_166 : decode cX11_breakPages 166 = .ok (.iaload, 1) := by decide +kernel
theorem dX11_breakPages_167 : decode cX11_breakPages 167 = .ok (.ifCond .eq 36, 3) := by decide +kernel
theorem dX11_breakPages_170 : decode cX11_breakPages 170 = .ok (.iload 6, 2) := by decide +kernel
theorem dX11_breakPages_172 : decode cX11_breakPages 172 = .ok (.aload_n 0, 1) := by decide +kernel
theorem dX11_breakPages_173 : decode cX11_breakPages 173 = .ok (.getfield 179, 3) := by decide +kernel
theorem dX11_breakPages_176 : decode cX11_breakPages 176 = .ok (.iload_n 2, 1) := by decide +kernel
theorem dX11_breakPages_177 : decode cX11_breakPages 177 = .ok (.iaload, 1) := by decide +kernel
theorem dX11_breakPages_178 : decode cX11_breakPages 178 = .ok (.if_icmp .lt 25, 3) := by decide +kernel
theorem dX11_breakPages_181 : decode cX11_breakPages 181 = .ok (.iload 6, 2) := by decide +kernel
theorem dX11_breakPages_183 : decode cX11_breakPages 183 = .ok (.aload_n 0, 1) := by decide +kernel
theorem dX11_breakPages_184 : decode cX11_breakPages 184 = .ok (.getfield 179, 3) := by decide +kernel
theorem dX11_breakPages_187 : decode cX11_breakPages 187 = .ok (.iload_n 2, 1) := by decide +kernel
theorem dX11_breakPages_188 : decode cX11_breakPages 188 = .ok (.iaload, 1) := by decide +kernel
theorem dX11_breakPages_189 : decode cX11_breakPages 189 = .ok (.if_icmp .ne 18, 3) := by decide +kernel
theorem dX11_breakPages_192 : decode cX11_breakPages 192 = .ok (.iload 7, 2) := by decide +kernel
theorem dX11_breakPages_194 : decode cX11_breakPages 194 = .ok (.aload_n 0, 1) := by decide +kernel
theorem dX11_breakPages_195 : decode cX11_breakPages 195 = .ok (.getfield 182, 3) := by decide +kernel
theorem dX11_breakPages_198 : decode cX11_breakPages 198 = .ok (.iload_n 2, 1) := by decide +kernel
theorem dX11_breakPages_199 : decode cX11_breakPages 199 = .ok (.iaload, 1) := by decide +kernel
theorem dX11_breakPages_200 : decode cX11_breakPages 200 = .ok (.if_icmp .gt 7, 3) := by decide +kernel
theorem dX11_breakPages_203 : decode cX11_breakPages 203 = .ok (.iconst 1, 1) := by decide +kernel
theorem dX11_breakPages_204 : decode cX11_breakPages 204 = .ok (.goto 4, 3) := by decide +kernel
theorem dX11_breakPages_207 : decode cX11_breakPages 207 = .ok (.iconst 0, 1) := by decide +kernel
theorem dX11_breakPages_208 : decode cX11_breakPages 208 = .ok (.istore 8, 2) := by decide +kernel
theorem dX11_breakPages_210 : decode cX11_breakPages 210 = .ok (.iload 8, 2) := by decide +kernel
theorem dX11_breakPages_212 : decode cX11_breakPages 212 = .ok (.ifCond .eq 26, 3) := by decide +kernel
theorem dX11_breakPages_215 : decode cX11_breakPages 215 = .ok (.aload_n 0, 1) := by decide +kernel
theorem dX11_breakPages_216 : decode cX11_breakPages 216 = .ok (.getfield 179, 3) := by decide +kernel
theorem dX11_breakPages_219 : decode cX11_breakPages 219 = .ok (.iload_n 2, 1) := by decide +kernel
theorem dX11_breakPages_220 : decode cX11_breakPages 220 = .ok (.iload 6, 2) := by decide +kernel
theorem dX11_breakPages_222 : decode cX11_breakPages 222 = .ok (.iastore, 1) := by decide +kernel
theorem dX11_breakPages_223 : decode cX11_breakPages 223 = .ok (.aload_n 0, 1) := by decide +kernel
theorem dX11_breakPages_224 : decode cX11_breakPages 224 = .ok (.getfield 182, 3) := by decide +kernel
theorem dX11_breakPages_227 : decode cX11_breakPages 227 = .ok (.iload_n 2, 1) := by decide +kernel
theorem dX11_breakPages_228 : decode cX11_breakPages 228 = .ok (.iload 7, 2) := by decide +kernel
theorem dX11_breakPages_230 : decode cX11_breakPages 230 = .ok (.iastore, 1) := by decide +kernel
theorem dX11_breakPages_231 : decode cX11_breakPages 231 = .ok (.aload_n 0, 1) := by decide +kernel
theorem dX11_breakPages_232 : decode cX11_breakPages 232 = .ok (.getfield 185, 3) := by decide +kernel
theorem dX11_breakPages_235 : decode cX11_breakPages 235 = .ok (.iload_n 2, 1) := by decide +kernel
theorem dX11_breakPages_236 : decode cX11_breakPages 236 = .ok (.iload_n 3, 1) := by decide +kernel
theorem dX11_breakPages_237 : decode cX11_breakPages 237 = .ok (.iastore, 1) := by decide +kernel
theorem dX11_breakPages_238 : decode cX11_breakPages 238 = .ok (.iinc 3 1, 3) := by decide +kernel
theorem dX11_breakPages_241 : decode cX11_breakPages 241 = .ok (.goto (-162), 3) := by decide +kernel
theorem dX11_breakPages_244 : decode cX11_breakPages 244 = .ok (.iinc 2 (-1), 3) := by decide +kernel
theorem dX11_breakPages_247 : decode cX11_breakPages 247 = .ok (.goto (-181), 3) := by decide +kernel
theorem dX11_breakPages_250 : decode cX11_breakPages 250 = .ok (.iconst 0, 1) := by decide +kernel
theorem dX11_breakPages_251 : decode cX11_breakPages 251 = .ok (.istore_n 2, 1) := by decide +kernel
theorem dX11_breakPages_252 : decode cX11_breakPages 252 = .ok (.aload_n 0, 1) := by decide +kernel
theorem dX11_breakPages_253 : decode cX11_breakPages 253 = .ok (.getfield 185, 3) := by decide +kernel
theorem dX11_breakPages_256 : decode cX11_breakPages 256 = .ok (.iconst 0, 1) := by decide +kernel
theorem dX11_breakPages_257 : decode cX11_breakPages 257 = .ok (.iaload, 1) := by decide +kernel
theorem dX11_breakPages_258 : decode cX11_breakPages 258 = .ok (.istore_n 3, 1) := by decide +kernel
theorem dX11_breakPages_259 : decode cX11_breakPages 259 = .ok (.iconst 0, 1) := by decide +kernel
theorem dX11_breakPages_260 : decode cX11_breakPages 260 = .ok (.istore 4, 2) := by decide +kernel
theorem dX11_breakPages_262 : decode cX11_breakPages 262 = .ok (.iload 4, 2) := by decide +kernel
theorem dX11_breakPages_264 : decode cX11_breakPages 264 = .ok (.aload_n 0, 1) := by decide +kernel
theorem dX11_breakPages_265 : decode cX11_breakPages 265 = .ok (.getfield 398, 3) := by decide +kernel
theorem dX11_breakPages_268 : decode cX11_breakPages 268 = .ok (.if_icmp .ge 35, 3) := by decide +kernel
theorem dX11_breakPages_271 : decode cX11_breakPages 271 = .ok (.iload_n 3, 1) := by decide +kernel
theorem dX11_breakPages_272 : decode cX11_breakPages 272 = .ok (.ifCond .ne 14, 3) := by decide +kernel
theorem dX11_breakPages_275 : decode cX11_breakPages 275 = .ok (.iinc 2 1, 3) := by decide +kernel
theorem dX11_breakPages_278 : decode cX11_breakPages 278 = .ok (.aload_n 0, 1) := by decide +kernel
theorem dX11_breakPages_279 : decode cX11_breakPages 279 = .ok (.getfield 185, 3) := by decide +kernel
theorem dX11_breakPages_282 : decode cX11_breakPages 282 = .ok (.iload 4, 2) := by decide +kernel
theorem dX11_breakPages_284 : decode cX11_breakPages 284 = .ok (.iaload, 1) := by decide +kernel
theorem dX11_breakPages_285 : decode cX11_breakPages 285 = .ok (.istore_n 3, 1) := by decide +kernel
theorem dX11_breakPages_286 : decode cX11_breakPages 286 = .ok (.aload_n 0, 1) := by decide +kernel
theorem dX11_breakPages_287 : decode cX11_breakPages 287 = .ok (.getfield 173, 3) := by decide +kernel
theorem dX11_breakPages_290 : decode cX11_breakPages 290 = .ok (.iload 4, 2) := by decide +kernel
theorem dX11_breakPages_292 : decode cX11_breakPages 292 = .ok (.iload_n 2, 1) := by decide +kernel
theorem dX11_breakPages_293 : decode cX11_breakPages 293 = .ok (.iastore, 1) := by decide +kernel
theorem dX11_breakPages_294 : decode cX11_breakPages 294 = .ok (.iinc 3 (-1), 3) := by decide +kernel
theorem dX11_breakPages_297 : decode cX11_breakPages 297 = .ok (.iinc 4 1, 3) := by decide +kernel
theorem dX11_breakPages_300 : decode cX11_breakPages 300 = .ok (.goto (-38), 3) := by decide +kernel
theorem dX11_breakPages_303 : decode cX11_breakPages 303 = .ok (.aload_n 0, 1) := by decide +kernel
theorem dX11_breakPages_304 : decode cX11_breakPages 304 = .ok (.iconst 1, 1) := by decide +kernel
theorem dX11_breakPages_305 : decode cX11_breakPages 305 = .ok (.putfield 404, 3) := by decide +kernel
theorem dX11_breakPages_308 : decode cX11_breakPages 308 = .ok (.aload_n 0, 1) := by decide +kernel
theorem dX11_breakPages_309 : decode cX11_breakPages 309 = .ok (.getfield 179, 3) := by decide +kernel
theorem dX11_breakPages_312 : decode cX11_breakPages 312 = .ok (.iconst 0, 1) := by decide +kernel
theorem dX11_breakPages_313 : decode cX11_breakPages 313 = .ok (.iaload, 1) := by decide +kernel
theorem dX11_breakPages_314 : decode cX11_breakPages 314 = .ok (.ireturn, 1) := by decide +kernel
set_option maxRecDepth 20000 in
theorem ggX11_pageOf_X11_in : GoodIn wsX11_pageOf wsX11_in := goodIn_r _ [8] (by decide +kernel) (by decide +kernel)
set_option maxRecDepth 20000 in
theorem gX11_pageOf_X11_in : GoodIn wsX11_pageOf (va_wsS RX11 195 yX11_in wsX11_in) := goodIn_app (goodIn_of _ (by decide +kernel)) ggX11_pageOf_X11_in
theorem dX11_pageOf_0 : decode cX11_pageOf 0 = .ok (.aload_n 0, 1) := by decide +kernel
theorem dX11_pageOf_1 : decode cX11_pageOf 1 = .ok (.iload_n 1, 1) := by decide +kernel
theorem dX11_pageOf_2 : decode cX11_pageOf 2 = .ok (.iconst 0, 1) := by decide +kernel
theorem dX11_pageOf_3 : decode cX11_pageOf 3 = .ok (.aload_n 0, 1) := by decide +kernel
theorem dX11_pageOf_4 : decode cX11_pageOf 4 = .ok (.getfield 398, 3) := by decide +kernel
theorem dX11_pageOf_7 : decode cX11_pageOf 7 = .ok (.iconst 1, 1) := by decide +kernel
theorem dX11_pageOf_8 : decode cX11_pageOf 8 = .ok (.isub, 1) := by decide +kernel
theorem dX11_pageOf_9 : decode cX11_pageOf 9 = .ok (.invokestatic 195, 3) := by decide +kernel
theorem dX11_pageOf_12 : decode cX11_pageOf 12 = .ok (.ifCond .ne 7, 3) := by decide +kernel
theorem dX11_pageOf_15 : decode cX11_pageOf 15 = .ok (.iconst 1, 1) := by decide +kernel
theorem dX11_pageOf_16 : decode cX11_pageOf 16 = .ok (.goto 15, 3) := by decide +kernel
theorem dX11_pageOf_19 : decode cX11_pageOf 19 = .ok (.aload_n 0, 1) := by decide +kernel
theorem dX11_pageOf_20 : decode cX11_pageOf 20 = .ok (.getfield 404, 3) := by decide +kernel
theorem dX11_pageOf_23 : decode cX11_pageOf 23 = .ok (.ifCond .ne 7, 3) := by decide +kernel
theorem dX11_pageOf_26 : decode cX11_pageOf 26 = .ok (.iconst 2, 1) := by decide +kernel
theorem dX11_pageOf_27 : decode cX11_pageOf 27 = .ok (.goto 4, 3) := by decide +kernel
theorem dX11_pageOf_30 : decode cX11_pageOf 30 = .ok (.iconst 0, 1) := by decide +kernel
theorem dX11_pageOf_31 : decode cX11_pageOf 31 = .ok (.putfield 192, 3) := by decide +kernel
theorem dX11_pageOf_34 : decode cX11_pageOf 34 = .ok (.aload_n 0, 1) := by decide +kernel
theorem dX11_pageOf_35 : decode cX11_pageOf 35 = .ok (.getfield 192, 3) := by decide +kernel
theorem dX11_pageOf_38 : decode cX11_pageOf 38 = .ok (.ifCond .ne 12, 3) := by decide +kernel
theorem dX11_pageOf_41 : decode cX11_pageOf 41 = .ok (.aload_n 0, 1) := by decide +kernel
theorem dX11_pageOf_42 : decode cX11_pageOf 42 = .ok (.getfield 173, 3) := by decide +kernel
theorem dX11_pageOf_45 : decode cX11_pageOf 45 = .ok (.iload_n 1, 1) := by decide +kernel
theorem dX11_pageOf_46 : decode cX11_pageOf 46 = .ok (.iaload, 1) := by decide +kernel
theorem dX11_pageOf_47 : decode cX11_pageOf 47 = .ok (.goto 4, 3) := by decide +kernel
theorem dX11_pageOf_50 : decode cX11_pageOf 50 = .ok (.iconst 0, 1) := by decide +kernel
theorem dX11_pageOf_51 : decode cX11_pageOf 51 = .ok (.ireturn, 1) := by decide +kernel
set_option maxRecDepth 20000 in
theorem ggJx00060_init_d00df_J4_init_da8c8 : GoodIn wsJx00060_init_d00df wsJ4_init_da8c8 := goodIn_r _ [6, 7, 8, 9, 10, 11, 12, 13, 14, 15, 16, 17, 18, 19, 20, 21, 22, 23, 24, 25, 236, 237, 238, 239] (by decide +kernel) (by decide +kernel)
set_option maxRecDepth 20000 in
theorem gJx00060_init_d00df_J4_init_da8c8 : GoodIn wsJx00060_init_d00df (wsJ4_init_da8c8) := ggJx00060_init_d00df_J4_init_da8c8
set_option maxRecDepth 20000 in
theorem ggJx00060_init_d00df_J4_append_15ec4 : GoodIn wsJx00060_init_d00df wsJ4_append_15ec4 := goodIn_r _ [29, 30, 31, 32, 33, 9, 34, 35, 36, 37, 38, 39, 40, 16, 41, 42, 43, 44, 45, 17, 46, 47, 48, 49, 50, 51, 52, 53, 54, 55, 56, 57, 58, 59, 60, 61, 62, 63, 64, 65, 66, 67, 68, 69, 70, 71, 72, 73, 15, 74, 75, 76, 77, 78, 79, 80, 81, 82, 83, 84, 85, 14, 86, 87, 20, 88, 89, 90, 91, 92, 93, 94, 95, 96, 97, 98, 99, 100, 101, 102, 103, 104, 105, 106, 107, 108, 109, 110, 111, 112, 113, 114, 115, 116, 117, 118, 119, 120, 121, 122, 123, 124, 125, 126, 127, 128, 129, 130, 131, 132, 133, 134, 135, 136, 18, 19, 21, 22, 23, 24, 25, 137, 138, 139, 140, 141, 142, 143, 144, 145, 146, 147, 148, 149, 150, 151, 152, 153, 154, 155, 156, 157, 158, 236, 237, 238, 239, 240, 241, 242, 243] (by decide +kernel) (by decide +kernel)
set_option maxRecDepth 20000 in
theorem gJx00060_init_d00df_J4_append_15ec4 : GoodIn wsJx00060_init_d00df (wsV RJx00060 15 RJ4 yJ4_append_15ec4 wsJ4_append_15ec4) := goodIn_app (goodIn_of _ (by decide +kernel)) ggJx00060_init_d00df_J4_append_15ec4
set_option maxRecDepth 20000 in
theorem ggJx00060_init_d00df_J4_append_bf812 : GoodIn wsJx00060_init_d00df wsJ4_append_bf812 := goodIn_r _ [162, 163, 164, 32, 165, 9, 166, 35, 16, 167, 168, 169, 170, 41, 42, 43, 44, 45, 17, 46, 47, 48, 49, 50, 51, 52, 53, 54, 55, 56, 57, 58, 59, 60, 61, 62, 63, 64, 65, 66, 67, 68, 69, 70, 71, 72, 73, 15, 74, 75, 76, 77, 78, 79, 80, 81, 82, 83, 84, 85, 14, 171, 172, 173, 174, 175, 176, 177, 20, 178, 89, 90, 91, 92, 93, 94, 95, 96, 97, 98, 99, 100, 101, 102, 103, 104, 179, 180, 181, 182, 183, 105, 106, 107, 108, 109, 236, 237, 238, 239] (by decide +kernel) (by decide +kernel)
set_option maxRecDepth 20000 in
theorem gJx00060_init_d00df_J4_append_bf812 : GoodIn wsJx00060_init_d00df (wsV RJx00060 19 RJ4 yJ4_append_bf812 wsJ4_append_bf812) := goodIn_app (goodIn_of _ (by decide +kernel)) ggJx00060_init_d00df_J4_append_bf812
set_option maxRecDepth 20000 in
theorem ggJx00060_init_d00df_J4_toString_0e30d : GoodIn wsJx00060_init_d00df wsJ4_toString_0e30d := goodIn_r _ [187, 188, 189, 98, 190, 191, 192, 193, 194, 195, 196, 12, 13, 120, 114, 119, 197, 198, 199, 200, 201, 9, 202, 16, 203, 204, 205, 206, 207, 3, 208, 209, 32, 210, 211, 35, 212, 82, 83, 84, 85, 14, 17, 213, 214, 66, 215, 68, 69, 70, 71, 72, 73, 216, 217, 218, 15, 74, 75, 58, 76, 77, 78, 79, 80, 219, 220, 221, 222, 2, 223, 224, 20, 225, 226, 227, 228, 144, 145, 146, 93, 94, 95, 147, 148, 149, 100, 150, 151, 103, 152, 229, 230, 231, 89, 108, 109, 22, 23, 24, 25, 232, 233, 234, 235, 240, 241, 242, 243, 236, 237, 238, 239] (by decide +kernel) (by decide +kernel)
set_option maxRecDepth 20000 in
theorem gJx00060_init_d00df_J4_toString_0e30d : GoodIn wsJx00060_init_d00df (wsV RJx00060 22 RJ4 yJ4_toString_0e30d wsJ4_toString_0e30d) := goodIn_app (goodIn_of _ (by decide +kernel)) ggJx00060_init_d00df_J4_toString_0e30d
theorem dJ7_fill_53178_0 : decode cJ7_fill_53178 0 = .ok (.iconst 0, 1) := by decide +kernel
theorem dJ7_fill_53178_1 : decode cJ7_fill_53178 1 = .ok (.istore_n 2, 1) := by decide +kernel
theorem dJ7_fill_53178_2 : decode cJ7_fill_53178 2 = .ok (.aload_n 0, 1) := by decide +kernel
theorem dJ7_fill_53178_3 : decode cJ7_fill_53178 3 = .ok (.arraylength, 1) := by decide +kernel
theorem dJ7_fill_53178_4 : decode cJ7_fill_53178 4 = .ok (.istore_n 3, 1) := by decide +kernel
theorem dJ7_fill_53178_5 : decode cJ7_fill_53178 5 = .ok (.iload_n 2, 1) := by decide +kernel
theorem dJ7_fill_53178_6 : decode cJ7_fill_53178 6 = .ok (.iload_n 3, 1) := by decide +kernel
theorem dJ7_fill_53178_7 : decode cJ7_fill_53178 7 = .ok (.if_icmp .ge 13, 3) := by decide +kernel
theorem dJ7_fill_53178_10 : decode cJ7_fill_53178 10 = .ok (.aload_n 0, 1) := by decide +kernel
theorem dJ7_fill_53178_11 : decode cJ7_fill_53178 11 = .ok (.iload_n 2, 1) := by decide +kernel
theorem dJ7_fill_53178_12 : decode cJ7_fill_53178 12 = .ok (.iload_n 1, 1) := by decide +kernel
theorem dJ7_fill_53178_13 : decode cJ7_fill_53178 13 = .ok (.iastore, 1) := by decide +kernel
theorem dJ7_fill_53178_14 : decode cJ7_fill_53178 14 = .ok (.iinc 2 1, 3) := by decide +kernel
theorem dJ7_fill_53178_17 : decode cJ7_fill_53178 17 = .ok (.goto (-12), 3) := by decide +kernel
theorem dJ7_fill_53178_20 : decode cJ7_fill_53178 20 = .ok (.return_, 1) := by decide +kernel
set_option maxRecDepth 20000 in
theorem ggL_text_X10_text : GoodIn wsL_text wsX10_text := goodIn_ca (goodIn_ca (goodIn_r _ [6, 7, 8, 9, 10, 11, 12, 5, 13, 14, 15, 16, 17, 18, 19, 20, 21, 22, 23, 24, 25, 26, 27, 28, 29, 30, 31, 32, 33, 34, 35, 36, 37, 38, 39, 40, 41, 42, 43, 44, 45, 46, 47, 48, 49, 50, 51, 52, 53, 54, 55, 56, 57, 58, 59, 60, 61, 62, 63, 64, 65, 66, 67, 68, 69, 70, 71, 72, 73, 74, 75, 76, 77, 78, 79, 80, 81, 82, 83, 84] (by decide +kernel) (by decide +kernel)) (goodIn_sub (fun _ h => List.mem_cons_of_mem _ (List.mem_append_left _ (List.mem_append_right _ h))) (by decide +kernel))) (goodIn_sub (fun _ h => List.mem_cons_of_mem _ (List.mem_append_right _ h)) (by decide +kernel))
set_option maxRecDepth 20000 in
theorem gL_text_X10_text : GoodIn wsL_text (wsV RL 7 RX10 yX10_text wsX10_text) := goodIn_app (goodIn_of _ (by decide +kernel)) ggL_text_X10_text
theorem dL_text_0 : decode cL_text 0 = .ok (.aload_n 3, 1) := by decide +kernel
theorem dL_text_1 : decode cL_text 1 = .ok (.iconst 0, 1) := by decide +kernel
theorem dL_text_2 : decode cL_text 2 = .ok (.aload_n 0, 1) := by decide +kernel
theorem dL_text_3 : decode cL_text 3 = .ok (.iload_n 1, 1) := by decide +kernel
theorem dL_text_4 : decode cL_text 4 = .ok (.iload_n 2, 1) := by decide +kernel
theorem dL_text_5 : decode cL_text 5 = .ok (.invokevirtual 7, 3) := by decide +kernel
theorem dL_text_8 : decode cL_text 8 = .ok (.i2l, 1) := by decide +kernel
theorem dL_text_9 : decode cL_text 9 = .ok (.lastore, 1) := by decide +kernel
theorem dL_text_10 : decode cL_text 10 = .ok (.goto 11, 3) := by decide +kernel
theorem dL_text_13 : decode cL_text 13 = .ok (.astore 4, 2) := by decide +kernel
theorem dL_text_15 : decode cL_text 15 = .ok (.iconst 1, 1) := by decide +kernel
theorem dL_text_16 : decode cL_text 16 = .ok (.ireturn, 1) := by decide +kernel
theorem dL_text_17 : decode cL_text 17 = .ok (.astore 4, 2) := by decide +kernel
theorem dL_text_19 : decode cL_text 19 = .ok (.iconst 2, 1) := by decide +kernel
theorem dL_text_20 : decode cL_text 20 = .ok (.ireturn, 1) := by decide +kernel
theorem dL_text_21 : decode cL_text 21 = .ok (.iconst 0, 1) := by decide +kernel
theorem dL_text_22 : decode cL_text 22 = .ok (.ireturn, 1) := by decide +kernel
set_option maxRecDepth 20000 in
theorem ggL_remark_X10_remark : GoodIn wsL_remark wsX10_remark := goodIn_ca (goodIn_ca (goodIn_r _ [6, 7, 8, 9, 10, 11, 12, 5, 13, 14, 15, 16, 17, 18, 19, 20, 21, 22, 23, 24, 25, 26, 27, 28, 29, 30, 31, 32, 33, 34, 35, 36, 37, 38, 39, 40, 41, 42, 43, 44, 45, 46, 47, 48, 49, 50, 51, 52, 53, 54, 55, 56, 57, 58, 59, 60, 61, 62, 63, 64, 65, 66, 67, 68, 69, 70, 71, 72, 73, 74, 75, 76, 77, 78, 79, 80, 81, 82, 83, 84] (by decide +kernel) (by decide +kernel)) (goodIn_sub (fun _ h => List.mem_cons_of_mem _ (List.mem_append_left _ (List.mem_append_right _ h))) (by decide +kernel))) (goodIn_sub (fun _ h => List.mem_cons_of_mem _ (List.mem_append_right _ h)) (by decide +kernel))
set_option maxRecDepth 20000 in
theorem gL_remark_X10_remark : GoodIn wsL_remark (wsV RL 17 RX10 yX10_remark wsX10_remark) := goodIn_app (goodIn_of _ (by decide +kernel)) ggL_remark_X10_remark
theorem dL_remark_0 : decode cL_remark 0 = .ok (.aload_n 3, 1) := by decide +kernel
theorem dL_remark_1 : decode cL_remark 1 = .ok (.iconst 0, 1) := by decide +kernel
theorem dL_remark_2 : decode cL_remark 2 = .ok (.aload_n 0, 1) := by decide +kernel
theorem dL_remark_3 : decode cL_remark 3 = .ok (.iload_n 1, 1) := by decide +kernel
theorem dL_remark_4 : decode cL_remark 4 = .ok (.iload_n 2, 1) := by decide +kernel
theorem dL_remark_5 : decode cL_remark 5 = .ok (.invokevirtual 17, 3) := by decide +kernel
theorem dL_remark_8 : decode cL_remark 8 = .ok (.i2l, 1) := by decide +kernel
theorem dL_remark_9 : decode cL_remark 9 = .ok (.lastore, 1) := by decide +kernel
theorem dL_remark_10 : decode cL_remark 10 = .ok (.goto 11, 3) := by decide +kernel
theorem dL_remark_13 : decode cL_remark 13 = .ok (.astore 4, 2) := by decide +kernel
theorem dL_remark_15 : decode cL_remark 15 = .ok (.iconst 1, 1) := by decide +kernel
theorem dL_remark_16 : decode cL_remark 16 = .ok (.ireturn, 1) := by decide +kernel
theorem dL_remark_17 : decode cL_remark 17 = .ok (.astore 4, 2) := by decide +kernel
theorem dL_remark_19 : decode cL_remark 19 = .ok (.iconst 2, 1) := by decide +kernel
theorem dL_remark_20 : decode cL_remark 20 = .ok (.ireturn, 1) := by decide +kernel
theorem dL_remark_21 : decode cL_remark 21 = .ok (.iconst 0, 1) := by decide +kernel
theorem dL_remark_22 : decode cL_remark 22 = .ok (.ireturn, 1) := by decide +kernel
set_option maxRecDepth 20000 in
theorem ggL_line_X10_line : GoodIn wsL_line wsX10_line := goodIn_ca (goodIn_r _ [6, 7, 8, 9, 10, 11, 12, 13, 14, 15, 16, 17, 18, 19, 20, 21, 22, 23, 24, 25, 26, 27, 28, 29, 30, 31, 32, 33, 34, 35, 36, 37, 38, 39, 40, 41, 42, 5, 43, 44, 45, 46, 47, 48, 49, 50, 51, 52, 53, 54, 55, 56, 57, 58, 59, 60, 61, 62, 63, 64, 65, 66, 67, 68, 69, 70, 71, 72, 73, 74, 75, 76, 77, 78, 79] (by decide +kernel) (by decide +kernel)) (goodIn_sub (fun _ h => List.mem_cons_of_mem _ (List.mem_append_right _ h)) (by decide +kernel))
set_option maxRecDepth 20000 in
theorem gL_line_X10_line : GoodIn wsL_line (wsV RL 20 RX10 yX10_line wsX10_line) := goodIn_app (goodIn_of _ (by decide +kernel)) ggL_line_X10_line
theorem dL_line_0 : decode cL_line 0 = .ok (.aload_n 1, 1) := by decide +kernel
theorem dL_line_1 : decode cL_line 1 = .ok (.iconst 0, 1) := by decide +kernel
theorem dL_line_2 : decode cL_line 2 = .ok (.aload_n 0, 1) := by decide +kernel
theorem dL_line_3 : decode cL_line 3 = .ok (.invokevirtual 20, 3) := by decide +kernel
theorem dL_line_6 : decode cL_line 6 = .ok (.i2l, 1) := by decide +kernel
theorem dL_line_7 : decode cL_line 7 = .ok (.lastore, 1) := by decide +kernel
theorem dL_line_8 : decode cL_line 8 = .ok (.goto 6, 3) := by decide +kernel
theorem dL_line_11 : decode cL_line 11 = .ok (.astore_n 2, 1) := by decide +kernel
theorem dL_line_12 : decode cL_line 12 = .ok (.iconst 1, 1) := by decide +kernel
theorem dL_line_13 : decode cL_line 13 = .ok (.ireturn, 1) := by decide +kernel
theorem dL_line_14 : decode cL_line 14 = .ok (.iconst 0, 1) := by decide +kernel
theorem dL_line_15 : decode cL_line 15 = .ok (.ireturn, 1) := by decide +kernel
set_option maxRecDepth 20000 in
theorem ggL_soft_X10_soft : GoodIn wsL_soft wsX10_soft := goodIn_ca (goodIn_r _ [6, 7, 8, 9, 10, 11, 12, 13, 14, 15, 16, 17, 18, 19, 20, 21, 22, 23, 24, 25, 26, 27, 28, 29, 30, 31, 32, 33, 34, 35, 36, 37, 38, 39, 40, 41, 42, 5, 43, 44, 45, 46, 47, 48, 49, 50, 51, 52, 53, 54, 55, 56, 57, 58, 59, 60, 61, 62, 63, 64, 65, 66, 67, 68, 69, 70, 71, 72, 73, 74, 75, 76, 77, 78, 79] (by decide +kernel) (by decide +kernel)) (goodIn_sub (fun _ h => List.mem_cons_of_mem _ (List.mem_append_right _ h)) (by decide +kernel))
set_option maxRecDepth 20000 in
theorem gL_soft_X10_soft : GoodIn wsL_soft (wsV RL 24 RX10 yX10_soft wsX10_soft) := goodIn_app (goodIn_of _ (by decide +kernel)) ggL_soft_X10_soft
theorem dL_soft_0 : decode cL_soft 0 = .ok (.aload_n 1, 1) := by decide +kernel
theorem dL_soft_1 : decode cL_soft 1 = .ok (.iconst 0, 1) := by decide +kernel
theorem dL_soft_2 : decode cL_soft 2 = .ok (.aload_n 0, 1) := by decide +kernel
theorem dL_soft_3 : decode cL_soft 3 = .ok (.invokevirtual 24, 3) := by decide +kernel
theorem dL_soft_6 : decode cL_soft 6 = .ok (.i2l, 1) := by decide +kernel
theorem dL_soft_7 : decode cL_soft 7 = .ok (.lastore, 1) := by decide +kernel
theorem dL_soft_8 : decode cL_soft 8 = .ok (.goto 6, 3) := by decide +kernel
theorem dL_soft_11 : decode cL_soft 11 = .ok (.astore_n 2, 1) := by decide +kernel
theorem dL_soft_12 : decode cL_soft 12 = .ok (.iconst 1, 1) := by decide +kernel
theorem dL_soft_13 : decode cL_soft 13 = .ok (.ireturn, 1) := by decide +kernel
theorem dL_soft_14 : decode cL_soft 14 = .ok (.iconst 0, 1) := by decide +kernel
theorem dL_soft_15 : decode cL_soft 15 = .ok (.ireturn, 1) := by decide +kernel
set_option maxRecDepth 20000 in
theorem ggL_hard_X10_hard : GoodIn wsL_hard wsX10_hard := goodIn_ca (goodIn_r _ [6, 7, 8, 9, 10, 11, 12, 13, 14, 15, 16, 17, 18, 19, 20, 21, 22, 23, 24, 25, 26, 27, 28, 29, 30, 31, 32, 33, 34, 35, 36, 37, 38, 39, 40, 41, 42, 5, 43, 44, 45, 46, 47, 48, 49, 50, 51, 52, 53, 54, 55, 56, 57, 58, 59, 60, 61, 62, 63, 64, 65, 66, 67, 68, 69, 70, 71, 72, 73, 74, 75, 76, 77, 78, 79] (by decide +kernel) (by decide +kernel)) (goodIn_sub (fun _ h => List.mem_cons_of_mem _ (List.mem_append_right _ h)) (by decide +kernel))
set_option maxRecDepth 20000 in
theorem gL_hard_X10_hard : GoodIn wsL_hard (wsV RL 27 RX10 yX10_hard wsX10_hard) := goodIn_app (goodIn_of _ (by decide +kernel)) ggL_hard_X10_hard
theorem dL_hard_0 : decode cL_hard 0 = .ok (.aload_n 1, 1) := by decide +kernel
theorem dL_hard_1 : decode cL_hard 1 = .ok (.iconst 0, 1) := by decide +kernel
theorem dL_hard_2 : decode cL_hard 2 = .ok (.aload_n 0, 1) := by decide +kernel
theorem dL_hard_3 : decode cL_hard 3 = .ok (.invokevirtual 27, 3) := by decide +kernel
theorem dL_hard_6 : decode cL_hard 6 = .ok (.i2l, 1) := by decide +kernel
theorem dL_hard_7 : decode cL_hard 7 = .ok (.lastore, 1) := by decide +kernel
theorem dL_hard_8 : decode cL_hard 8 = .ok (.goto 6, 3) := by decide +kernel
theorem dL_hard_11 : decode cL_hard 11 = .ok (.astore_n 2, 1) := by decide +kernel
theorem dL_hard_12 : decode cL_hard 12 = .ok (.iconst 1, 1) := by decide +kernel
theorem dL_hard_13 : decode cL_hard 13 = .ok (.ireturn, 1) := by decide +kernel
theorem dL_hard_14 : decode cL_hard 14 = .ok (.iconst 0, 1) := by decide +kernel
theorem dL_hard_15 : decode cL_hard 15 = .ok (.ireturn, 1) := by decide +kernel
set_option maxRecDepth 20000 in
theorem ggL_tab_X10_tab : GoodIn wsL_tab wsX10_tab := goodIn_ca (goodIn_ca (goodIn_r _ [6, 7, 8, 9, 10, 11, 12, 5, 13, 14, 15, 16, 17, 18, 19, 20, 21, 22, 23, 24, 25, 26, 27, 28, 29, 30, 31, 32, 33, 34, 35, 36, 37, 38, 39, 40, 41, 42, 43, 44, 45, 46, 47, 48, 49, 50, 51, 52, 53, 54, 55, 56, 57, 58, 59, 60, 61, 62, 63, 64, 65, 66, 67, 68, 69, 70, 71, 72, 73, 74, 75, 76, 77, 78, 79, 80, 81, 82, 83, 84] (by decide +kernel) (by decide +kernel)) (goodIn_sub (fun _ h => List.mem_cons_of_mem _ (List.mem_append_left _ (List.mem_append_right _ h))) (by decide +kernel))) (goodIn_sub (fun _ h => List.mem_cons_of_mem _ (List.mem_append_right _ h)) (by decide +kernel))
set_option maxRecDepth 20000 in
theorem gL_tab_X10_tab : GoodIn wsL_tab (wsV RL 30 RX10 yX10_tab wsX10_tab) := goodIn_app (goodIn_of _ (by decide +kernel)) ggL_tab_X10_tab
theorem dL_tab_0 : decode cL_tab 0 = .ok (.aload_n 2, 1) := by decide +kernel
theorem dL_tab_1 : decode cL_tab 1 = .ok (.iconst 0, 1) := by decide +kernel
theorem dL_tab_2 : decode cL_tab 2 = .ok (.aload_n 0, 1) := by decide +kernel
theorem dL_tab_3 : decode cL_tab 3 = .ok (.iload_n 1, 1) := by decide +kernel
theorem dL_tab_4 : decode cL_tab 4 = .ok (.invokevirtual 30, 3) := by decide +kernel
theorem dL_tab_7 : decode cL_tab 7 = .ok (.i2l, 1) := by decide +kernel
theorem dL_tab_8 : decode cL_tab 8 = .ok (.lastore, 1) := by decide +kernel
theorem dL_tab_9 : decode cL_tab 9 = .ok (.goto 9, 3) := by decide +kernel
theorem dL_tab_12 : decode cL_tab 12 = .ok (.astore_n 3, 1) := by decide +kernel
theorem dL_tab_13 : decode cL_tab 13 = .ok (.iconst 1, 1) := by decide +kernel
theorem dL_tab_14 : decode cL_tab 14 = .ok (.ireturn, 1) := by decide +kernel
theorem dL_tab_15 : decode cL_tab 15 = .ok (.astore_n 3, 1) := by decide +kernel
theorem dL_tab_16 : decode cL_tab 16 = .ok (.iconst 2, 1) := by decide +kernel
theorem dL_tab_17 : decode cL_tab 17 = .ok (.ireturn, 1) := by decide +kernel
theorem dL_tab_18 : decode cL_tab 18 = .ok (.iconst 0, 1) := by decide +kernel
theorem dL_tab_19 : decode cL_tab 19 = .ok (.ireturn, 1) := by decide +kernel
set_option maxRecDepth 20000 in
theorem ggL_pair_X10_pair : GoodIn wsL_pair wsX10_pair := goodIn_ca (goodIn_ca (goodIn_r _ [6, 7, 8, 9, 10, 11, 12, 13, 5, 14, 15, 16, 17, 18, 19, 20, 21, 22, 23, 24, 25, 26, 27, 28, 29, 30, 31, 32, 33, 34, 35, 36, 37, 38, 39, 40, 41, 42, 43, 44, 45, 46, 47, 48, 49, 50, 51, 52, 53, 54, 55, 56, 57, 58, 59, 60, 61, 62, 63, 64, 65, 66, 67, 68, 69, 70, 71, 72, 73, 74, 75, 76, 77, 78, 79, 80, 81, 82, 83, 84, 85, 86, 87, 88, 89, 90, 91, 92, 93, 94, 95, 96, 97, 98, 99] (by decide +kernel) (by decide +kernel)) (goodIn_sub (fun _ h => List.mem_cons_of_mem _ (List.mem_append_left _ (List.mem_append_right _ h))) (by decide +kernel))) (goodIn_sub (fun _ h => List.mem_cons_of_mem _ (List.mem_append_right _ h)) (by decide +kernel))
set_option maxRecDepth 20000 in
theorem gL_pair_X10_pair : GoodIn wsL_pair (wsV RL 34 RX10 yX10_pair wsX10_pair) := goodIn_app (goodIn_of _ (by decide +kernel)) ggL_pair_X10_pair
theorem dL_pair_0 : decode cL_pair 0 = .ok (.aload_n 3, 1) := by decide +kernel
theorem dL_pair_1 : decode cL_pair 1 = .ok (.iconst 0, 1) := by decide +kernel
theorem dL_pair_2 : decode cL_pair 2 = .ok (.aload_n 0, 1) := by decide +kernel
theorem dL_pair_3 : decode cL_pair 3 = .ok (.iload_n 1, 1) := by decide +kernel
theorem dL_pair_4 : decode cL_pair 4 = .ok (.iload_n 2, 1) := by decide +kernel
theorem dL_pair_5 : decode cL_pair 5 = .ok (.invokevirtual 34, 3) := by decide +kernel
theorem dL_pair_8 : decode cL_pair 8 = .ok (.i2l, 1) := by decide +kernel
theorem dL_pair_9 : decode cL_pair 9 = .ok (.lastore, 1) := by decide +kernel
theorem dL_pair_10 : decode cL_pair 10 = .ok (.goto 11, 3) := by decide +kernel
theorem dL_pair_13 : decode cL_pair 13 = .ok (.astore 4, 2) := by decide +kernel
theorem dL_pair_15 : decode cL_pair 15 = .ok (.iconst 1, 1) := by decide +kernel
theorem dL_pair_16 : decode cL_pair 16 = .ok (.ireturn, 1) := by decide +kernel
theorem dL_pair_17 : decode cL_pair 17 = .ok (.astore 4, 2) := by decide +kernel
theorem dL_pair_19 : decode cL_pair 19 = .ok (.iconst 2, 1) := by decide +kernel
theorem dL_pair_20 : decode cL_pair 20 = .ok (.ireturn, 1) := by decide +kernel
theorem dL_pair_21 : decode cL_pair 21 = .ok (.iconst 0, 1) := by decide +kernel
theorem dL_pair_22 : decode cL_pair 22 = .ok (.ireturn, 1) := by decide +kernel
set_option maxRecDepth 20000 in
theorem ggL_nest_X10_nest : GoodIn wsL_nest wsX10_nest := goodIn_ca (goodIn_ca (goodIn_ca (goodIn_r _ [6, 7, 8, 9, 10, 11, 12, 13, 5, 14, 15, 16, 17, 18, 19, 20, 21, 22, 23, 24, 25, 26, 27, 28, 29, 30, 31, 32, 33, 34, 35, 36, 37, 38, 39, 40, 41, 42, 43, 44, 45, 46, 47, 48, 49, 50, 51, 52, 53, 54, 55, 56, 57, 58, 59, 60, 61, 62, 63, 64, 65, 66, 67, 68, 69, 70, 71, 72, 73, 74, 75, 76, 77, 78, 79, 80, 81, 82, 83, 84, 85, 86, 87, 88, 89, 90, 91, 92, 93, 94, 95, 96, 97, 98, 99, 100, 101, 102, 103, 104] (by decide +kernel) (by decide +kernel)) (goodIn_sub (fun _ h => List.mem_cons_of_mem _ (List.mem_append_left _ (List.mem_append_left _ (List.mem_append_right _ h)))) (by decide +kernel))) (goodIn_sub (fun _ h => List.mem_cons_of_mem _ (List.mem_append_left _ (List.mem_append_right _ h))) (by decide +kernel))) (goodIn_sub (fun _ h => List.mem_cons_of_mem _ (List.mem_append_right _ h)) (by decide +kernel))
set_option maxRecDepth 20000 in
theorem gL_nest_X10_nest : GoodIn wsL_nest (wsV RL 39 RX10 yX10_nest wsX10_nest) := goodIn_app (goodIn_of _ (by decide +kernel)) ggL_nest_X10_nest
theorem dL_nest_0 : decode cL_nest 0 = .ok (.aload_n 3, 1) := by decide +kernel
theorem dL_nest_1 : decode cL_nest 1 = .ok (.iconst 0, 1) := by decide +kernel
theorem dL_nest_2 : decode cL_nest 2 = .ok (.aload_n 0, 1) := by decide +kernel
theorem dL_nest_3 : decode cL_nest 3 = .ok (.iload_n 1, 1) := by decide +kernel
theorem dL_nest_4 : decode cL_nest 4 = .ok (.iload_n 2, 1) := by decide +kernel
theorem dL_nest_5 : decode cL_nest 5 = .ok (.invokevirtual 39, 3) := by decide +kernel
theorem dL_nest_8 : decode cL_nest 8 = .ok (.i2l, 1) := by decide +kernel
theorem dL_nest_9 : decode cL_nest 9 = .ok (.lastore, 1) := by decide +kernel
theorem dL_nest_10 : decode cL_nest 10 = .ok (.goto 15, 3) := by decide +kernel
theorem dL_nest_13 : decode cL_nest 13 = .ok (.astore 4, 2) := by decide +kernel
theorem dL_nest_15 : decode cL_nest 15 = .ok (.iconst 1, 1) := by decide +kernel
theorem dL_nest_16 : decode cL_nest 16 = .ok (.ireturn, 1) := by decide +kernel
theorem dL_nest_17 : decode cL_nest 17 = .ok (.astore 4, 2) := by decide +kernel
theorem dL_nest_19 : decode cL_nest 19 = .ok (.iconst 2, 1) := by decide +kernel
theorem dL_nest_20 : decode cL_nest 20 = .ok (.ireturn, 1) := by decide +kernel
theorem dL_nest_21 : decode cL_nest 21 = .ok (.astore 4, 2) := by decide +kernel
theorem dL_nest_23 : decode cL_nest 23 = .ok (.iconst 3, 1) := by decide +kernel
theorem dL_nest_24 : decode cL_nest 24 = .ok (.ireturn, 1) := by decide +kernel
theorem dL_nest_25 : decode cL_nest 25 = .ok (.iconst 0, 1) := by decide +kernel
theorem dL_nest_26 : decode cL_nest 26 = .ok (.ireturn, 1) := by decide +kernel
set_option maxRecDepth 20000 in
theorem ggL_align_X10_align : GoodIn wsL_align wsX10_align := goodIn_ca (goodIn_ca (goodIn_r _ [6, 7, 8, 9, 10, 11, 12, 13, 5, 14, 15, 16, 17, 18, 19, 20, 21, 22, 23, 24, 25, 26, 27, 28, 29, 30, 31, 32, 33, 34, 35, 36, 37, 38, 39, 40, 41, 42, 43, 44, 45, 46, 47, 48, 49, 50, 51, 52, 53, 54, 55, 56, 57, 58, 59, 60, 61, 62, 63, 64, 65, 66, 67, 68, 69, 70, 71, 72, 73, 74, 75, 76, 77, 78, 79, 80, 81, 82, 83, 84, 85, 86, 87, 88, 89, 90, 91, 92, 93, 94, 95, 96, 97, 98, 99] (by decide +kernel) (by decide +kernel)) (goodIn_sub (fun _ h => List.mem_cons_of_mem _ (List.mem_append_left _ (List.mem_append_right _ h))) (by decide +kernel))) (goodIn_sub (fun _ h => List.mem_cons_of_mem _ (List.mem_append_right _ h)) (by decide +kernel))
set_option maxRecDepth 20000 in
theorem gL_align_X10_align : GoodIn wsL_align (wsV RL 42 RX10 yX10_align wsX10_align) := goodIn_app (goodIn_of _ (by decide +kernel)) ggL_align_X10_align
theorem dL_align_0 : decode cL_align 0 = .ok (.aload_n 2, 1) := by decide +kernel
theorem dL_align_1 : decode cL_align 1 = .ok (.iconst 0, 1) := by decide +kernel
theorem dL_align_2 : decode cL_align 2 = .ok (.aload_n 0, 1) := by decide +kernel
theorem dL_align_3 : decode cL_align 3 = .ok (.iload_n 1, 1) := by decide +kernel
theorem dL_align_4 : decode cL_align 4 = .ok (.invokevirtual 42, 3) := by decide +kernel
theorem dL_align_7 : decode cL_align 7 = .ok (.i2l, 1) := by decide +kernel
theorem dL_align_8 : decode cL_align 8 = .ok (.lastore, 1) := by decide +kernel
theorem dL_align_9 : decode cL_align 9 = .ok (.goto 9, 3) := by decide +kernel
theorem dL_align_12 : decode cL_align 12 = .ok (.astore_n 3, 1) := by decide +kernel
theorem dL_align_13 : decode cL_align 13 = .ok (.iconst 1, 1) := by decide +kernel
theorem dL_align_14 : decode cL_align 14 = .ok (.ireturn, 1) := by decide +kernel
theorem dL_align_15 : decode cL_align 15 = .ok (.astore_n 3, 1) := by decide +kernel
theorem dL_align_16 : decode cL_align 16 = .ok (.iconst 2, 1) := by decide +kernel
theorem dL_align_17 : decode cL_align 17 = .ok (.ireturn, 1) := by decide +kernel
theorem dL_align_18 : decode cL_align 18 = .ok (.iconst 0, 1) := by decide +kernel
theorem dL_align_19 : decode cL_align 19 = .ok (.ireturn, 1) := by decide +kernel
set_option maxRecDepth 20000 in
theorem ggL_group_X10_group : GoodIn wsL_group wsX10_group := goodIn_ca (goodIn_ca (goodIn_r _ [6, 7, 8, 9, 10, 11, 12, 13, 5, 14, 15, 16, 17, 18, 19, 20, 21, 22, 23, 24, 25, 26, 27, 28, 29, 30, 31, 32, 33, 34, 35, 36, 37, 38, 39, 40, 41, 42, 43, 44, 45, 46, 47, 48, 49, 50, 51, 52, 53, 54, 55, 56, 57, 58, 59, 60, 61, 62, 63, 64, 65, 66, 67, 68, 69, 70, 71, 72, 73, 74, 75, 76, 77, 78, 79, 80, 81, 82, 83, 84, 85, 86, 87, 88, 89, 90, 91, 92, 93, 94, 95, 96, 97, 98, 99] (by decide +kernel) (by decide +kernel)) (goodIn_sub (fun _ h => List.mem_cons_of_mem _ (List.mem_append_left _ (List.mem_append_right _ h))) (by decide +kernel))) (goodIn_sub (fun _ h => List.mem_cons_of_mem _ (List.mem_append_right _ h)) (by decide +kernel))
set_option maxRecDepth 20000 in
theorem gL_group_X10_group : GoodIn wsL_group (wsV RL 45 RX10 yX10_group wsX10_group) := goodIn_app (goodIn_of _ (by decide +kernel)) ggL_group_X10_group
theorem dL_group_0 : decode cL_group 0 = .ok (.aload_n 2, 1) := by decide +kernel
theorem dL_group_1 : decode cL_group 1 = .ok (.iconst 0, 1) := by decide +kernel
theorem dL_group_2 : decode cL_group 2 = .ok (.aload_n 0, 1) := by decide +kernel
theorem dL_group_3 : decode cL_group 3 = .ok (.iload_n 1, 1) := by decide +kernel
theorem dL_group_4 : decode cL_group 4 = .ok (.invokevirtual 45, 3) := by decide +kernel
theorem dL_group_7 : decode cL_group 7 = .ok (.i2l, 1) := by decide +kernel
theorem dL_group_8 : decode cL_group 8 = .ok (.lastore, 1) := by decide +kernel
theorem dL_group_9 : decode cL_group 9 = .ok (.goto 9, 3) := by decide +kernel
theorem dL_group_12 : decode cL_group 12 = .ok (.astore_n 3, 1) := by decide +kernel
theorem dL_group_13 : decode cL_group 13 = .ok (.iconst 1, 1) := by decide +kernel
theorem dL_group_14 : decode cL_group 14 = .ok (.ireturn, 1) := by decide +kernel
theorem dL_group_15 : decode cL_group 15 = .ok (.astore_n 3, 1) := by decide +kernel
theorem dL_group_16 : decode cL_group 16 = .ok (.iconst 2, 1) := by decide +kernel
theorem dL_group_17 : decode cL_group 17 = .ok (.ireturn, 1) := by decide +kernel
theorem dL_group_18 : decode cL_group 18 = .ok (.iconst 0, 1) := by decide +kernel
theorem dL_group_19 : decode cL_group 19 = .ok (.ireturn, 1) := by decide +kernel
set_option maxRecDepth 20000 in
theorem ggL_choice_X10_choice : GoodIn wsL_choice wsX10_choice := goodIn_ca (goodIn_ca (goodIn_r _ [6, 7, 8, 9, 10, 11, 12, 13, 5, 14, 15, 16, 17, 18, 19, 20, 21, 22, 23, 24, 25, 26, 27, 28, 29, 30, 31, 32, 33, 34, 35, 36, 37, 38, 39, 40, 41, 42, 43, 44, 45, 46, 47, 48, 49, 50, 51, 52, 53, 54, 55, 56, 57, 58, 59, 60, 61, 62, 63, 64, 65, 66, 67, 68, 69, 70, 71, 72, 73, 74, 75, 76, 77, 78, 79, 80, 81, 82, 83, 84, 85, 86, 87, 88, 89, 90, 91, 92, 93, 94, 95, 96, 97, 98, 99] (by decide +kernel) (by decide +kernel)) (goodIn_sub (fun _ h => List.mem_cons_of_mem _ (List.mem_append_left _ (List.mem_append_right _ h))) (by decide +kernel))) (goodIn_sub (fun _ h => List.mem_cons_of_mem _ (List.mem_append_right _ h)) (by decide +kernel))
set_option maxRecDepth 20000 in
theorem gL_choice_X10_choice : GoodIn wsL_choice (wsV RL 48 RX10 yX10_choice wsX10_choice) := goodIn_app (goodIn_of _ (by decide +kernel)) ggL_choice_X10_choice
theorem dL_choice_0 : decode cL_choice 0 = .ok (.aload_n 3, 1) := by decide +kernel
theorem dL_choice_1 : decode cL_choice 1 = .ok (.iconst 0, 1) := by decide +kernel
theorem dL_choice_2 : decode cL_choice 2 = .ok (.aload_n 0, 1) := by decide +kernel
theorem dL_choice_3 : decode cL_choice 3 = .ok (.iload_n 1, 1) := by decide +kernel
theorem dL_choice_4 : decode cL_choice 4 = .ok (.iload_n 2, 1) := by decide +kernel
theorem dL_choice_5 : decode cL_choice 5 = .ok (.invokevirtual 48, 3) := by decide +kernel
theorem dL_choice_8 : decode cL_choice 8 = .ok (.i2l, 1) := by decide +kernel
theorem dL_choice_9 : decode cL_choice 9 = .ok (.lastore, 1) := by decide +kernel
theorem dL_choice_10 : decode cL_choice 10 = .ok (.goto 11, 3) := by decide +kernel
theorem dL_choice_13 : decode cL_choice 13 = .ok (.astore 4, 2) := by decide +kernel
theorem dL_choice_15 : decode cL_choice 15 = .ok (.iconst 1, 1) := by decide +kernel
theorem dL_choice_16 : decode cL_choice 16 = .ok (.ireturn, 1) := by decide +kernel
theorem dL_choice_17 : decode cL_choice 17 = .ok (.astore 4, 2) := by decide +kernel
theorem dL_choice_19 : decode cL_choice 19 = .ok (.iconst 2, 1) := by decide +kernel
theorem dL_choice_20 : decode cL_choice 20 = .ok (.ireturn, 1) := by decide +kernel
theorem dL_choice_21 : decode cL_choice 21 = .ok (.iconst 0, 1) := by decide +kernel
theorem dL_choice_22 : decode cL_choice 22 = .ok (.ireturn, 1) := by decide +kernel
set_option maxRecDepth 20000 in
theorem ggL_flat_X10_flat : GoodIn wsL_flat wsX10_flat := goodIn_ca (goodIn_ca (goodIn_r _ [6, 7, 8, 9, 10, 11, 12, 13, 5, 14, 15, 16, 17, 18, 19, 20, 21, 22, 23, 24, 25, 26, 27, 28, 29, 30, 31, 32, 33, 34, 35, 36, 37, 38, 39, 40, 41, 42, 43, 44, 45, 46, 47, 48, 49, 50, 51, 52, 53, 54, 55, 56, 57, 58, 59, 60, 61, 62, 63, 64, 65, 66, 67, 68, 69, 70, 71, 72, 73, 74, 75, 76, 77, 78, 79, 80, 81, 82, 83, 84, 85, 86, 87, 88, 89, 90, 91, 92, 93, 94, 95, 96, 97, 98, 99] (by decide +kernel) (by decide +kernel)) (goodIn_sub (fun _ h => List.mem_cons_of_mem _ (List.mem_append_left _ (List.mem_append_right _ h))) (by decide +kernel))) (goodIn_sub (fun _ h => List.mem_cons_of_mem _ (List.mem_append_right _ h)) (by decide +kernel))
set_option maxRecDepth 20000 in
theorem gL_flat_X10_flat : GoodIn wsL_flat (wsV RL 51 RX10 yX10_flat wsX10_flat) := goodIn_app (goodIn_of _ (by decide +kernel)) ggL_flat_X10_flat
theorem dL_flat_0 : decode cL_flat 0 = .ok (.aload_n 2, 1) := by decide +kernel
theorem dL_flat_1 : decode cL_flat 1 = .ok (.iconst 0, 1) := by decide +kernel
theorem dL_flat_2 : decode cL_flat 2 = .ok (.aload_n 0, 1) := by decide +kernel
theorem dL_flat_3 : decode cL_flat 3 = .ok (.iload_n 1, 1) := by decide +kernel
theorem dL_flat_4 : decode cL_flat 4 = .ok (.invokevirtual 51, 3) := by decide +kernel
theorem dL_flat_7 : decode cL_flat 7 = .ok (.i2l, 1) := by decide +kernel
theorem dL_flat_8 : decode cL_flat 8 = .ok (.lastore, 1) := by decide +kernel
theorem dL_flat_9 : decode cL_flat 9 = .ok (.goto 9, 3) := by decide +kernel
theorem dL_flat_12 : decode cL_flat 12 = .ok (.astore_n 3, 1) := by decide +kernel
theorem dL_flat_13 : decode cL_flat 13 = .ok (.iconst 1, 1) := by decide +kernel
theorem dL_flat_14 : decode cL_flat 14 = .ok (.ireturn, 1) := by decide +kernel
theorem dL_flat_15 : decode cL_flat 15 = .ok (.astore_n 3, 1) := by decide +kernel
theorem dL_flat_16 : decode cL_flat 16 = .ok (.iconst 2, 1) := by decide +kernel
theorem dL_flat_17 : decode cL_flat 17 = .ok (.ireturn, 1) := by decide +kernel
theorem dL_flat_18 : decode cL_flat 18 = .ok (.iconst 0, 1) := by decide +kernel
theorem dL_flat_19 : decode cL_flat 19 = .ok (.ireturn, 1) := by decide +kernel
set_option maxRecDepth 20000 in
theorem ggL_broken_X10_broken : GoodIn wsL_broken wsX10_broken := goodIn_ca (goodIn_ca (goodIn_r _ [6, 7, 8, 9, 10, 11, 12, 13, 5, 14, 15, 16, 17, 18, 19, 20, 21, 22, 23, 24, 25, 26, 27, 28, 29, 30, 31, 32, 33, 34, 35, 36, 37, 38, 39, 40, 41, 42, 43, 44, 45, 46, 47, 48, 49, 50, 51, 52, 53, 54, 55, 56, 57, 58, 59, 60, 61, 62, 63, 64, 65, 66, 67, 68, 69, 70, 71, 72, 73, 74, 75, 76, 77, 78, 79, 80, 81, 82, 83, 84, 85, 86, 87, 88, 89, 90, 91, 92, 93, 94, 95, 96, 97, 98, 99] (by decide +kernel) (by decide +kernel)) (goodIn_sub (fun _ h => List.mem_cons_of_mem _ (List.mem_append_left _ (List.mem_append_right _ h))) (by decide +kernel))) (goodIn_sub (fun _ h => List.mem_cons_of_mem _ (List.mem_append_right _ h)) (by decide +kernel))
set_option maxRecDepth 20000 in
theorem gL_broken_X10_broken : GoodIn wsL_broken (wsV RL 54 RX10 yX10_broken wsX10_broken) := goodIn_app (goodIn_of _ (by decide +kernel)) ggL_broken_X10_broken
theorem dL_broken_0 : decode cL_broken 0 = .ok (.aload_n 3, 1) := by decide +kernel
theorem dL_broken_1 : decode cL_broken 1 = .ok (.iconst 0, 1) := by decide +kernel
theorem dL_broken_2 : decode cL_broken 2 = .ok (.aload_n 0, 1) := by decide +kernel
theorem dL_broken_3 : decode cL_broken 3 = .ok (.iload_n 1, 1) := by decide +kernel
theorem dL_broken_4 : decode cL_broken 4 = .ok (.iload_n 2, 1) := by decide +kernel
theorem dL_broken_5 : decode cL_broken 5 = .ok (.invokevirtual 54, 3) := by decide +kernel
theorem dL_broken_8 : decode cL_broken 8 = .ok (.i2l, 1) := by decide +kernel
theorem dL_broken_9 : decode cL_broken 9 = .ok (.lastore, 1) := by decide +kernel
theorem dL_broken_10 : decode cL_broken 10 = .ok (.goto 11, 3) := by decide +kernel
theorem dL_broken_13 : decode cL_broken 13 = .ok (.astore 4, 2) := by decide +kernel
theorem dL_broken_15 : decode cL_broken 15 = .ok (.iconst 1, 1) := by decide +kernel
theorem dL_broken_16 : decode cL_broken 16 = .ok (.ireturn, 1) := by decide +kernel
theorem dL_broken_17 : decode cL_broken 17 = .ok (.astore 4, 2) := by decide +kernel
theorem dL_broken_19 : decode cL_broken 19 = .ok (.iconst 2, 1) := by decide +kernel
theorem dL_broken_20 : decode cL_broken 20 = .ok (.ireturn, 1) := by decide +kernel
theorem dL_broken_21 : decode cL_broken 21 = .ok (.iconst 0, 1) := by decide +kernel
theorem dL_broken_22 : decode cL_broken 22 = .ok (.ireturn, 1) := by decide +kernel
set_option maxRecDepth 20000 in
theorem ggL_price_X10_price : GoodIn wsL_price wsX10_price := goodIn_ca (goodIn_ca (goodIn_ca (goodIn_r _ [6, 7, 8, 9, 10, 11, 12, 13, 5, 14, 15, 16, 17, 18, 19, 20, 21, 22, 23, 24, 25, 26, 27, 28, 29, 30, 31, 32, 33, 34, 35, 36, 37, 38, 39, 40, 41, 42, 43, 44, 45, 46, 47, 48, 49, 50, 51, 52, 53, 54, 55, 56, 57, 58, 59, 60, 61, 62, 63, 64, 65, 66, 67, 68, 69, 70, 71, 72, 73, 74, 75, 76, 77, 78, 79, 80, 81, 82, 83, 84, 85, 86, 87, 88, 89, 90, 91, 92, 93, 94, 95, 96, 97, 98, 99, 100, 101, 102, 103, 104] (by decide +kernel) (by decide +kernel)) (goodIn_sub (fun _ h => List.mem_cons_of_mem _ (List.mem_append_left _ (List.mem_append_left _ (List.mem_append_right _ h)))) (by decide +kernel))) (goodIn_sub (fun _ h => List.mem_cons_of_mem _ (List.mem_append_left _ (List.mem_append_right _ h))) (by decide +kernel))) (goodIn_sub (fun _ h => List.mem_cons_of_mem _ (List.mem_append_right _ h)) (by decide +kernel))
set_option maxRecDepth 20000 in
theorem gL_price_X10_price : GoodIn wsL_price (wsV RL 57 RX10 yX10_price wsX10_price) := goodIn_app (goodIn_of _ (by decide +kernel)) ggL_price_X10_price
theorem dL_price_0 : decode cL_price 0 = .ok (.aload_n 3, 1) := by decide +kernel
theorem dL_price_1 : decode cL_price 1 = .ok (.iconst 0, 1) := by decide +kernel
theorem dL_price_2 : decode cL_price 2 = .ok (.aload_n 0, 1) := by decide +kernel
theorem dL_price_3 : decode cL_price 3 = .ok (.iload_n 1, 1) := by decide +kernel
theorem dL_price_4 : decode cL_price 4 = .ok (.iload_n 2, 1) := by decide +kernel
theorem dL_price_5 : decode cL_price 5 = .ok (.invokevirtual 57, 3) := by decide +kernel
theorem dL_price_8 : decode cL_price 8 = .ok (.i2l, 1) := by decide +kernel
theorem dL_price_9 : decode cL_price 9 = .ok (.lastore, 1) := by decide +kernel
theorem dL_price_10 : decode cL_price 10 = .ok (.goto 15, 3) := by decide +kernel
theorem dL_price_13 : decode cL_price 13 = .ok (.astore 4, 2) := by decide +kernel
theorem dL_price_15 : decode cL_price 15 = .ok (.iconst 1, 1) := by decide +kernel
theorem dL_price_16 : decode cL_price 16 = .ok (.ireturn, 1) := by decide +kernel
theorem dL_price_17 : decode cL_price 17 = .ok (.astore 4, 2) := by decide +kernel
theorem dL_price_19 : decode cL_price 19 = .ok (.iconst 2, 1) := by decide +kernel
theorem dL_price_20 : decode cL_price 20 = .ok (.ireturn, 1) := by decide +kernel
theorem dL_price_21 : decode cL_price 21 = .ok (.astore 4, 2) := by decide +kernel
theorem dL_price_23 : decode cL_price 23 = .ok (.iconst 3, 1) := by decide +kernel
theorem dL_price_24 : decode cL_price 24 = .ok (.ireturn, 1) := by decide +kernel
theorem dL_price_25 : decode cL_price 25 = .ok (.iconst 0, 1) := by decide +kernel
theorem dL_price_26 : decode cL_price 26 = .ok (.ireturn, 1) := by decide +kernel
set_option maxRecDepth 20000 in
theorem ggL_keep_X10_keep : GoodIn wsL_keep wsX10_keep := goodIn_ca (goodIn_ca (goodIn_ca (goodIn_r _ [6, 7, 8, 9, 10, 11, 12, 13, 5, 14, 15, 16, 17, 18, 19, 20, 21, 22, 23, 24, 25, 26, 27, 28, 29, 30, 31, 32, 33, 34, 35, 36, 37, 38, 39, 40, 41, 42, 43, 44, 45, 46, 47, 48, 49, 50, 51, 52, 53, 54, 55, 56, 57, 58, 59, 60, 61, 62, 63, 64, 65, 66, 67, 68, 69, 70, 71, 72, 73, 74, 75, 76, 77, 78, 79, 80, 81, 82, 83, 84, 85, 86, 87, 88, 89, 90, 91, 92, 93, 94, 95, 96, 97, 98, 99, 100, 101, 102, 103, 104] (by decide +kernel) (by decide +kernel)) (goodIn_sub (fun _ h => List.mem_cons_of_mem _ (List.mem_append_left _ (List.mem_append_left _ (List.mem_append_right _ h)))) (by decide +kernel))) (goodIn_sub (fun _ h => List.mem_cons_of_mem _ (List.mem_append_left _ (List.mem_append_right _ h))) (by decide +kernel))) (goodIn_sub (fun _ h => List.mem_cons_of_mem _ (List.mem_append_right _ h)) (by decide +kernel))
set_option maxRecDepth 20000 in
theorem gL_keep_X10_keep : GoodIn wsL_keep (wsV RL 60 RX10 yX10_keep wsX10_keep) := goodIn_app (goodIn_of _ (by decide +kernel)) ggL_keep_X10_keep
theorem dL_keep_0 : decode cL_keep 0 = .ok (.aload_n 3, 1) := by decide +kernel
theorem dL_keep_1 : decode cL_keep 1 = .ok (.iconst 0, 1) := by decide +kernel
theorem dL_keep_2 : decode cL_keep 2 = .ok (.aload_n 0, 1) := by decide +kernel
theorem dL_keep_3 : decode cL_keep 3 = .ok (.iload_n 1, 1) := by decide +kernel
theorem dL_keep_4 : decode cL_keep 4 = .ok (.iload_n 2, 1) := by decide +kernel
theorem dL_keep_5 : decode cL_keep 5 = .ok (.invokevirtual 60, 3) := by decide +kernel
theorem dL_keep_8 : decode cL_keep 8 = .ok (.i2l, 1) := by decide +kernel
theorem dL_keep_9 : decode cL_keep 9 = .ok (.lastore, 1) := by decide +kernel
theorem dL_keep_10 : decode cL_keep 10 = .ok (.goto 15, 3) := by decide +kernel
theorem dL_keep_13 : decode cL_keep 13 = .ok (.astore 4, 2) := by decide +kernel
theorem dL_keep_15 : decode cL_keep 15 = .ok (.iconst 1, 1) := by decide +kernel
theorem dL_keep_16 : decode cL_keep 16 = .ok (.ireturn, 1) := by decide +kernel
theorem dL_keep_17 : decode cL_keep 17 = .ok (.astore 4, 2) := by decide +kernel
theorem dL_keep_19 : decode cL_keep 19 = .ok (.iconst 2, 1) := by decide +kernel
theorem dL_keep_20 : decode cL_keep 20 = .ok (.ireturn, 1) := by decide +kernel
theorem dL_keep_21 : decode cL_keep 21 = .ok (.astore 4, 2) := by decide +kernel
theorem dL_keep_23 : decode cL_keep 23 = .ok (.iconst 3, 1) := by decide +kernel
theorem dL_keep_24 : decode cL_keep 24 = .ok (.ireturn, 1) := by decide +kernel
theorem dL_keep_25 : decode cL_keep 25 = .ok (.iconst 0, 1) := by decide +kernel
theorem dL_keep_26 : decode cL_keep 26 = .ok (.ireturn, 1) := by decide +kernel
set_option maxRecDepth 20000 in
theorem ggL_cell_X10_cell : GoodIn wsL_cell wsX10_cell := goodIn_ca (goodIn_ca (goodIn_ca (goodIn_r _ [6, 7, 8, 9, 10, 11, 12, 13, 14, 15, 5, 16, 17, 18, 19, 20, 21, 22, 23, 24, 25, 26, 27, 28, 29, 30, 31, 32, 33, 34, 35, 36, 37, 38, 39, 40, 41, 42, 43, 44, 45, 46, 47, 48, 49, 50, 51, 52, 53, 54, 55, 56, 57, 58, 59, 60, 61, 62, 63, 64, 65, 66, 67, 68, 69, 70, 71, 72, 73, 74, 75, 76, 77, 78, 79, 80, 81, 82, 83, 84, 85, 86, 87, 88, 89, 90, 91, 92, 93, 94, 95, 96, 97, 98, 99, 100, 101, 102, 103, 104] (by decide +kernel) (by decide +kernel)) (goodIn_sub (fun _ h => List.mem_cons_of_mem _ (List.mem_append_left _ (List.mem_append_left _ (List.mem_append_right _ h)))) (by decide +kernel))) (goodIn_sub (fun _ h => List.mem_cons_of_mem _ (List.mem_append_left _ (List.mem_append_right _ h))) (by decide +kernel))) (goodIn_sub (fun _ h => List.mem_cons_of_mem _ (List.mem_append_right _ h)) (by decide +kernel))
set_option maxRecDepth 20000 in
theorem gL_cell_X10_cell : GoodIn wsL_cell (wsV RL 63 RX10 yX10_cell wsX10_cell) := goodIn_app (goodIn_of _ (by decide +kernel)) ggL_cell_X10_cell
theorem dL_cell_0 : decode cL_cell 0 = .ok (.aload 4, 2) := by decide +kernel
theorem dL_cell_2 : decode cL_cell 2 = .ok (.iconst 0, 1) := by decide +kernel
theorem dL_cell_3 : decode cL_cell 3 = .ok (.aload_n 0, 1) := by decide +kernel
theorem dL_cell_4 : decode cL_cell 4 = .ok (.iload_n 1, 1) := by decide +kernel
theorem dL_cell_5 : decode cL_cell 5 = .ok (.iload_n 2, 1) := by decide +kernel
theorem dL_cell_6 : decode cL_cell 6 = .ok (.iload_n 3, 1) := by decide +kernel
theorem dL_cell_7 : decode cL_cell 7 = .ok (.invokevirtual 63, 3) := by decide +kernel
theorem dL_cell_10 : decode cL_cell 10 = .ok (.i2l, 1) := by decide +kernel
theorem dL_cell_11 : decode cL_cell 11 = .ok (.lastore, 1) := by decide +kernel
theorem dL_cell_12 : decode cL_cell 12 = .ok (.goto 15, 3) := by decide +kernel
theorem dL_cell_15 : decode cL_cell 15 = .ok (.astore 5, 2) := by decide +kernel
theorem dL_cell_17 : decode cL_cell 17 = .ok (.iconst 1, 1) := by decide +kernel
theorem dL_cell_18 : decode cL_cell 18 = .ok (.ireturn, 1) := by decide +kernel
theorem dL_cell_19 : decode cL_cell 19 = .ok (.astore 5, 2) := by decide +kernel
theorem dL_cell_21 : decode cL_cell 21 = .ok (.iconst 2, 1) := by decide +kernel
theorem dL_cell_22 : decode cL_cell 22 = .ok (.ireturn, 1) := by decide +kernel
theorem dL_cell_23 : decode cL_cell 23 = .ok (.astore 5, 2) := by decide +kernel
theorem dL_cell_25 : decode cL_cell 25 = .ok (.iconst 3, 1) := by decide +kernel
theorem dL_cell_26 : decode cL_cell 26 = .ok (.ireturn, 1) := by decide +kernel
theorem dL_cell_27 : decode cL_cell 27 = .ok (.iconst 0, 1) := by decide +kernel
theorem dL_cell_28 : decode cL_cell 28 = .ok (.ireturn, 1) := by decide +kernel
set_option maxRecDepth 20000 in
theorem ggL_size_X10_size : GoodIn wsL_size wsX10_size := goodIn_ca (goodIn_r _ [6, 7, 8, 9, 5, 10, 11, 12, 13, 14, 15, 16, 17, 18, 19, 20, 21, 22, 23, 24, 25, 26, 27, 28, 29, 30, 31, 32, 33, 34, 35, 36] (by decide +kernel) (by decide +kernel)) (goodIn_sub (fun _ h => List.mem_cons_of_mem _ (List.mem_append_right _ h)) (by decide +kernel))
set_option maxRecDepth 20000 in
theorem gL_size_X10_size : GoodIn wsL_size (wsV RL 67 RX10 yX10_size wsX10_size) := goodIn_app (goodIn_of _ (by decide +kernel)) ggL_size_X10_size
theorem dL_size_0 : decode cL_size 0 = .ok (.aload_n 2, 1) := by decide +kernel
theorem dL_size_1 : decode cL_size 1 = .ok (.iconst 0, 1) := by decide +kernel
theorem dL_size_2 : decode cL_size 2 = .ok (.aload_n 0, 1) := by decide +kernel
theorem dL_size_3 : decode cL_size 3 = .ok (.iload_n 1, 1) := by decide +kernel
theorem dL_size_4 : decode cL_size 4 = .ok (.invokevirtual 67, 3) := by decide +kernel
theorem dL_size_7 : decode cL_size 7 = .ok (.i2l, 1) := by decide +kernel
theorem dL_size_8 : decode cL_size 8 = .ok (.lastore, 1) := by decide +kernel
theorem dL_size_9 : decode cL_size 9 = .ok (.goto 6, 3) := by decide +kernel
theorem dL_size_12 : decode cL_size 12 = .ok (.astore_n 3, 1) := by decide +kernel
theorem dL_size_13 : decode cL_size 13 = .ok (.iconst 1, 1) := by decide +kernel
theorem dL_size_14 : decode cL_size 14 = .ok (.ireturn, 1) := by decide +kernel
theorem dL_size_15 : decode cL_size 15 = .ok (.iconst 0, 1) := by decide +kernel
theorem dL_size_16 : decode cL_size 16 = .ok (.ireturn, 1) := by decide +kernel
set_option maxRecDepth 20000 in
theorem ggL_layouts_X10_layouts : GoodIn wsL_layouts wsX10_layouts := goodIn_ca (goodIn_r _ [6, 7, 8, 9, 5, 10, 11, 12, 13, 14, 15, 16, 17, 18, 19, 20, 21, 22, 23, 24, 25, 26, 27, 28, 29, 30, 31, 32, 33, 34, 35, 36] (by decide +kernel) (by decide +kernel)) (goodIn_sub (fun _ h => List.mem_cons_of_mem _ (List.mem_append_right _ h)) (by decide +kernel))
set_option maxRecDepth 20000 in
theorem gL_layouts_X10_layouts : GoodIn wsL_layouts (wsV RL 70 RX10 yX10_layouts wsX10_layouts) := goodIn_app (goodIn_of _ (by decide +kernel)) ggL_layouts_X10_layouts
theorem dL_layouts_0 : decode cL_layouts 0 = .ok (.aload_n 2, 1) := by decide +kernel
theorem dL_layouts_1 : decode cL_layouts 1 = .ok (.iconst 0, 1) := by decide +kernel
theorem dL_layouts_2 : decode cL_layouts 2 = .ok (.aload_n 0, 1) := by decide +kernel
theorem dL_layouts_3 : decode cL_layouts 3 = .ok (.iload_n 1, 1) := by decide +kernel
theorem dL_layouts_4 : decode cL_layouts 4 = .ok (.invokevirtual 70, 3) := by decide +kernel
theorem dL_layouts_7 : decode cL_layouts 7 = .ok (.i2l, 1) := by decide +kernel
theorem dL_layouts_8 : decode cL_layouts 8 = .ok (.lastore, 1) := by decide +kernel
theorem dL_layouts_9 : decode cL_layouts 9 = .ok (.goto 6, 3) := by decide +kernel
theorem dL_layouts_12 : decode cL_layouts 12 = .ok (.astore_n 3, 1) := by decide +kernel
theorem dL_layouts_13 : decode cL_layouts 13 = .ok (.iconst 1, 1) := by decide +kernel
theorem dL_layouts_14 : decode cL_layouts 14 = .ok (.ireturn, 1) := by decide +kernel
theorem dL_layouts_15 : decode cL_layouts 15 = .ok (.iconst 0, 1) := by decide +kernel
theorem dL_layouts_16 : decode cL_layouts 16 = .ok (.ireturn, 1) := by decide +kernel
set_option maxRecDepth 20000 in
theorem ggL_print_X10_print : GoodIn wsL_print wsX10_print := goodIn_ca (goodIn_ca (goodIn_ca (goodIn_ca (goodIn_r _ [6, 7, 8, 9, 10, 11, 12, 13, 5, 14, 15, 16, 17, 18, 19, 20, 21, 22, 23, 24, 25, 26, 27, 28, 29, 30, 31, 32, 33, 34, 35, 36, 37, 38, 39, 40, 41, 42, 43, 44, 45, 46, 47, 48, 49, 50, 51, 52, 53, 54, 55, 56, 57, 58, 59, 60, 61, 62, 63, 64, 65, 66, 67, 68, 69, 70, 71, 72, 73, 74, 75, 76, 77, 78, 79, 80, 81, 82, 83, 84, 85, 86, 87, 88, 89, 90, 91, 92, 93, 94, 95, 96, 97, 98, 99, 100, 101, 102, 103, 104, 105, 106, 107, 108, 109, 110, 111, 112, 113, 114, 115, 116, 117, 118, 119, 120, 121, 122, 123, 124, 125, 126, 127, 128, 129, 130, 131, 132, 133, 134, 135, 136, 137, 138, 139, 140, 141, 142, 143, 144, 145, 146, 147, 148, 149, 150, 151, 152, 153, 154, 155, 156, 157, 158, 159, 160, 161, 162, 163, 164, 165, 166, 167, 168, 169, 170, 171, 172, 173, 174, 175, 176, 177, 178, 179, 180, 181, 182, 183, 184, 185, 186, 187, 188, 189, 190, 191, 192, 193, 194, 195, 196, 197, 198, 199, 200, 201, 202, 203, 204, 205, 206, 207, 208, 209, 210, 211, 212, 213, 214, 215, 216, 217, 218, 219, 220, 221, 222, 223, 224, 225, 226, 227, 228, 229, 230, 231, 232, 233, 234, 235, 236, 237, 238, 239, 240, 241, 242, 243, 244, 245, 246, 247, 248, 249, 250, 251, 252, 253, 254, 255, 256, 257, 258, 259, 260, 261, 262, 263, 264, 265, 266, 267, 268, 269, 270, 271, 272, 273, 274, 275, 276, 277, 278, 279, 280, 281, 282, 283, 284, 285, 286, 287, 288, 289, 290, 291, 292, 293, 294, 295, 296, 297, 298, 299, 300, 301, 302, 303, 304, 305, 306, 307, 308, 309, 310, 311, 312, 313, 314, 315, 316, 317, 318, 319, 320, 321, 322, 323, 324, 325, 326, 327, 328, 329, 330, 331, 332, 333, 334, 335, 336, 337, 338, 339, 340, 341, 342, 343, 344, 345, 346, 347, 348, 349, 350, 351, 352, 353, 354, 355, 356, 357, 358, 359, 360, 361, 362, 363, 364, 365, 366, 367, 368, 369, 370, 371, 372, 373, 374, 375, 376, 377, 378, 379, 380, 381, 382, 383, 384, 385, 386, 387, 388, 389, 390, 391, 392, 393, 394, 395, 396, 397, 398, 399, 400, 401, 402, 403, 404, 405, 406, 407, 408, 409, 410, 411, 412, 413, 414, 415, 416, 417, 418, 419, 420, 421, 422, 423, 424, 425, 426, 427, 428, 429, 430, 431, 432, 433, 434, 435, 436, 437, 438, 439, 440, 441, 442, 443, 444, 445, 446, 447, 448, 449, 450, 451, 452, 453, 454, 455, 456, 457, 458, 459, 460, 461, 462, 463, 464, 465, 466, 467, 468, 469, 470, 471, 472, 473, 474, 475, 476, 477, 478, 479, 480, 481, 482, 483, 484, 485, 486, 487, 488, 489, 490, 491, 492, 493, 494, 495, 496, 497, 498, 499, 500, 501, 502, 503, 504, 505, 506, 507, 508, 509, 510, 511, 512, 513, 514, 515, 516, 517, 518, 519, 520, 521, 522, 523, 524, 525, 526, 527, 528, 529, 530, 531, 532, 533, 534, 535, 536, 537, 538, 539, 540, 541, 542, 543, 544, 545, 546, 547, 548, 549, 550, 551, 552, 553, 554, 555, 556, 557, 558, 559, 560, 561, 562, 563, 564, 565, 566, 567, 568, 569, 570, 571, 572, 573, 574, 575, 576, 577, 578, 579, 580, 581, 582, 583, 584, 585, 586, 587, 588, 589, 590, 591, 592, 593, 594, 595, 596, 597, 598, 599, 600, 601, 602, 603, 604, 605, 606, 607, 608, 609] (by decide +kernel) (by decide +kernel)) (goodIn_sub (fun _ h => List.mem_cons_of_mem _ (List.mem_append_left _ (List.mem_append_left _ (List.mem_append_right _ h)))) (by decide +kernel))) (goodIn_sub (fun _ h => List.mem_cons_of_mem _ (List.mem_append_left _ (List.mem_append_right _ h))) (by decide +kernel))) (goodIn_sub (fun _ h => List.mem_cons_of_mem _ (List.mem_append_right _ h)) (by decide +kernel))) (goodIn_sub (fun _ h => List.mem_cons_of_mem _ (List.mem_append_left _ (List.mem_append_left _ (List.mem_append_left _ (List.mem_append_right _ h))))) (by decide +kernel))
set_option maxRecDepth 20000 in
theorem gL_print_X10_print : GoodIn wsL_print (wsV RL 73 RX10 yX10_print wsX10_print) := goodIn_app (goodIn_of _ (by decide +kernel)) ggL_print_X10_print
theorem dL_print_0 : decode cL_print 0 = .ok (.aload 5, 2) := by decide +kernel
theorem dL_print_2 : decode cL_print 2 = .ok (.iconst 0, 1) := by decide +kernel
theorem dL_print_3 : decode cL_print 3 = .ok (.aload_n 0, 1) := by decide +kernel
theorem dL_print_4 : decode cL_print 4 = .ok (.iload_n 1, 1) := by decide +kernel
theorem dL_print_5 : decode cL_print 5 = .ok (.iload_n 2, 1) := by decide +kernel
theorem dL_print_6 : decode cL_print 6 = .ok (.iload_n 3, 1) := by decide +kernel
theorem dL_print_7 : decode cL_print 7 = .ok (.iload 4, 2) := by decide +kernel
theorem dL_print_9 : decode cL_print 9 = .ok (.invokevirtual 73, 3) := by decide +kernel
theorem dL_print_12 : decode cL_print 12 = .ok (.i2l, 1) := by decide +kernel
theorem dL_print_13 : decode cL_print 13 = .ok (.lastore, 1) := by decide +kernel
theorem dL_print_14 : decode cL_print 14 = .ok (.goto 15, 3) := by decide +kernel
theorem dL_print_17 : decode cL_print 17 = .ok (.astore 6, 2) := by decide +kernel
theorem dL_print_19 : decode cL_print 19 = .ok (.iconst 1, 1) := by decide +kernel
theorem dL_print_20 : decode cL_print 20 = .ok (.ireturn, 1) := by decide +kernel
theorem dL_print_21 : decode cL_print 21 = .ok (.astore 6, 2) := by decide +kernel
theorem dL_print_23 : decode cL_print 23 = .ok (.iconst 2, 1) := by decide +kernel
theorem dL_print_24 : decode cL_print 24 = .ok (.ireturn, 1) := by decide +kernel
theorem dL_print_25 : decode cL_print 25 = .ok (.astore 6, 2) := by decide +kernel
theorem dL_print_27 : decode cL_print 27 = .ok (.iconst 3, 1) := by decide +kernel
theorem dL_print_28 : decode cL_print 28 = .ok (.ireturn, 1) := by decide +kernel
theorem dL_print_29 : decode cL_print 29 = .ok (.iconst 0, 1) := by decide +kernel
theorem dL_print_30 : decode cL_print 30 = .ok (.ireturn, 1) := by decide +kernel
set_option maxRecDepth 20000 in
theorem ggL_printByAll_X10_printByAll : GoodIn wsL_printByAll wsX10_printByAll := goodIn_ca (goodIn_ca (goodIn_ca (goodIn_ca (goodIn_r _ [6, 7, 8, 9, 10, 11, 12, 5, 13, 14, 15, 16, 17, 18, 19, 20, 21, 22, 23, 24, 25, 26, 27, 28, 29, 30, 31, 32, 33, 34, 35, 36, 37, 38, 39, 40, 41, 42, 43, 44, 45, 46, 47, 48, 49, 50, 51, 52, 53, 54, 55, 56, 57, 58, 59, 60, 61, 62, 63, 64, 65, 66, 67, 68, 69, 70, 71, 72, 73, 74, 75, 76, 77, 78, 79, 80, 81, 82, 83, 84, 85, 86, 87, 88, 89, 90, 91, 92, 93, 94, 95, 96, 97, 98, 99, 100, 101, 102, 103, 104, 105, 106, 107, 108, 109, 110, 111, 112, 113, 114, 115, 116, 117, 118, 119, 120, 121, 122, 123, 124, 125, 126, 127, 128, 129, 130, 131, 132, 133, 134, 135, 136, 137, 138, 139, 140, 141, 142, 143, 144, 145, 146, 147, 148, 149, 150, 151, 152, 153, 154, 155, 156, 157, 158, 159, 160, 161, 162, 163, 164, 165, 166, 167, 168, 169, 170, 171, 172, 173, 174, 175, 176, 177, 178, 179, 180, 181, 182, 183, 184, 185, 186, 187, 188, 189, 190, 191, 192, 193, 194, 195, 196, 197, 198, 199, 200, 201, 202, 203, 204, 205, 206, 207, 208, 209, 210, 211, 212, 213, 214, 215, 216, 217, 218, 219, 220, 221, 222, 223, 224, 225, 226, 227, 228, 229, 230, 231, 232, 233, 234, 235, 236, 237, 238, 239, 240, 241, 242, 243, 244, 245, 246, 247, 248, 249, 250, 251, 252, 253, 254, 255, 256, 257, 258, 259, 260, 261, 262, 263, 264] (by decide +kernel) (by decide +kernel)) (goodIn_sub (fun _ h => List.mem_cons_of_mem _ (List.mem_append_left _ (List.mem_append_left _ (List.mem_append_right _ h)))) (by decide +kernel))) (goodIn_sub (fun _ h => List.mem_cons_of_mem _ (List.mem_append_left _ (List.mem_append_right _ h))) (by decide +kernel))) (goodIn_sub (fun _ h => List.mem_cons_of_mem _ (List.mem_append_right _ h)) (by decide +kernel))) (goodIn_sub (fun _ h => List.mem_cons_of_mem _ (List.mem_append_left _ (List.mem_append_left _ (List.mem_append_left _ (List.mem_append_right _ h))))) (by decide +kernel))
set_option maxRecDepth 20000 in
theorem gL_printByAll_X10_printByAll : GoodIn wsL_printByAll (wsV RL 77 RX10 yX10_printByAll wsX10_printByAll) := goodIn_app (goodIn_of _ (by decide +kernel)) ggL_printByAll_X10_printByAll
theorem dL_printByAll_0 : decode cL_printByAll 0 = .ok (.aload 5, 2) := by decide +kernel
theorem dL_printByAll_2 : decode cL_printByAll 2 = .ok (.iconst 0, 1) := by decide +kernel
theorem dL_printByAll_3 : decode cL_printByAll 3 = .ok (.aload_n 0, 1) := by decide +kernel
theorem dL_printByAll_4 : decode cL_printByAll 4 = .ok (.iload_n 1, 1) := by decide +kernel
theorem dL_printByAll_5 : decode cL_printByAll 5 = .ok (.iload_n 2, 1) := by decide +kernel
theorem dL_printByAll_6 : decode cL_printByAll 6 = .ok (.iload_n 3, 1) := by decide +kernel
theorem dL_printByAll_7 : decode cL_printByAll 7 = .ok (.iload 4, 2) := by decide +kernel
theorem dL_printByAll_9 : decode cL_printByAll 9 = .ok (.invokevirtual 77, 3) := by decide +kernel
theorem dL_printByAll_12 : decode cL_printByAll 12 = .ok (.i2l, 1) := by decide +kernel
theorem dL_printByAll_13 : decode cL_printByAll 13 = .ok (.lastore, 1) := by decide +kernel
theorem dL_printByAll_14 : decode cL_printByAll 14 = .ok (.goto 15, 3) := by decide +kernel
theorem dL_printByAll_17 : decode cL_printByAll 17 = .ok (.astore 6, 2) := by decide +kernel
theorem dL_printByAll_19 : decode cL_printByAll 19 = .ok (.iconst 1, 1) := by decide +kernel
theorem dL_printByAll_20 : decode cL_printByAll 20 = .ok (.ireturn, 1) := by decide +kernel
theorem dL_printByAll_21 : decode cL_printByAll 21 = .ok (.astore 6, 2) := by decide +kernel
theorem dL_printByAll_23 : decode cL_printByAll 23 = .ok (.iconst 2, 1) := by decide +kernel
theorem dL_printByAll_24 : decode cL_printByAll 24 = .ok (.ireturn, 1) := by decide +kernel
theorem dL_printByAll_25 : decode cL_printByAll 25 = .ok (.astore 6, 2) := by decide +kernel
theorem dL_printByAll_27 : decode cL_printByAll 27 = .ok (.iconst 3, 1) := by decide +kernel
theorem dL_printByAll_28 : decode cL_printByAll 28 = .ok (.ireturn, 1) := by decide +kernel
theorem dL_printByAll_29 : decode cL_printByAll 29 = .ok (.iconst 0, 1) := by decide +kernel
theorem dL_printByAll_30 : decode cL_printByAll 30 = .ok (.ireturn, 1) := by decide +kernel
set_option maxRecDepth 20000 in
theorem ggL_printGreedy_X10_printGreedy : GoodIn wsL_printGreedy wsX10_printGreedy := goodIn_ca (goodIn_ca (goodIn_ca (goodIn_ca (goodIn_r _ [6, 7, 8, 9, 10, 11, 12, 5, 13, 14, 15, 16, 17, 18, 19, 20, 21, 22, 23, 24, 25, 26, 27, 28, 29, 30, 31, 32, 33, 34, 35, 36, 37, 38, 39, 40, 41, 42, 43, 44, 45, 46, 47, 48, 49, 50, 51, 52, 53, 54, 55, 56, 57, 58, 59, 60, 61, 62, 63, 64, 65, 66, 67, 68, 69, 70, 71, 72, 73, 74, 75, 76, 77, 78, 79, 80, 81, 82, 83, 84, 85, 86, 87, 88, 89, 90, 91, 92, 93, 94, 95, 96, 97, 98, 99, 100, 101, 102, 103, 104, 105, 106, 107, 108, 109, 110, 111, 112, 113, 114, 115, 116, 117, 118, 119, 120, 121, 122, 123, 124, 125, 126, 127, 128, 129, 130, 131, 132, 133, 134, 135, 136, 137, 138, 139, 140, 141, 142, 143, 144, 145, 146, 147, 148, 149, 150, 151, 152, 153, 154, 155, 156, 157, 158, 159, 160, 161, 162, 163, 164, 165, 166, 167, 168, 169, 170, 171, 172, 173, 174, 175, 176, 177, 178, 179, 180, 181, 182, 183, 184, 185, 186, 187, 188, 189, 190, 191, 192, 193, 194, 195, 196, 197, 198, 199, 200, 201, 202, 203, 204, 205, 206, 207, 208, 209, 210, 211, 212, 213, 214, 215, 216, 217, 218, 219, 220, 221, 222, 223, 224, 225, 226, 227, 228, 229, 230, 231, 232, 233, 234, 235, 236, 237, 238, 239, 240, 241, 242, 243, 244, 245, 246, 247, 248, 249, 250, 251, 252, 253, 254, 255, 256, 257, 258, 259, 260, 261, 262, 263, 264, 265, 266, 267, 268, 269] (by decide +kernel) (by decide +kernel)) (goodIn_sub (fun _ h => List.mem_cons_of_mem _ (List.mem_append_left _ (List.mem_append_left _ (List.mem_append_right _ h)))) (by decide +kernel))) (goodIn_sub (fun _ h => List.mem_cons_of_mem _ (List.mem_append_left _ (List.mem_append_right _ h))) (by decide +kernel))) (goodIn_sub (fun _ h => List.mem_cons_of_mem _ (List.mem_append_right _ h)) (by decide +kernel))) (goodIn_sub (fun _ h => List.mem_cons_of_mem _ (List.mem_append_left _ (List.mem_append_left _ (List.mem_append_left _ (List.mem_append_right _ h))))) (by decide +kernel))
set_option maxRecDepth 20000 in
theorem gL_printGreedy_X10_printGreedy : GoodIn wsL_printGreedy (wsV RL 80 RX10 yX10_printGreedy wsX10_printGreedy) := goodIn_app (goodIn_of _ (by decide +kernel)) ggL_printGreedy_X10_printGreedy
theorem dL_printGreedy_0 : decode cL_printGreedy 0 = .ok (.aload 5, 2) := by decide +kernel
theorem dL_printGreedy_2 : decode cL_printGreedy 2 = .ok (.iconst 0, 1) := by decide +kernel
theorem dL_printGreedy_3 : decode cL_printGreedy 3 = .ok (.aload_n 0, 1) := by decide +kernel
theorem dL_printGreedy_4 : decode cL_printGreedy 4 = .ok (.iload_n 1, 1) := by decide +kernel
theorem dL_printGreedy_5 : decode cL_printGreedy 5 = .ok (.iload_n 2, 1) := by decide +kernel
theorem dL_printGreedy_6 : decode cL_printGreedy 6 = .ok (.iload_n 3, 1) := by decide +kernel
theorem dL_printGreedy_7 : decode cL_printGreedy 7 = .ok (.iload 4, 2) := by decide +kernel
theorem dL_printGreedy_9 : decode cL_printGreedy 9 = .ok (.invokevirtual 80, 3) := by decide +kernel
theorem dL_printGreedy_12 : decode cL_printGreedy 12 = .ok (.i2l, 1) := by decide +kernel
theorem dL_printGreedy_13 : decode cL_printGreedy 13 = .ok (.lastore, 1) := by decide +kernel
theorem dL_printGreedy_14 : decode cL_printGreedy 14 = .ok (.goto 15, 3) := by decide +kernel
theorem dL_printGreedy_17 : decode cL_printGreedy 17 = .ok (.astore 6, 2) := by decide +kernel
theorem dL_printGreedy_19 : decode cL_printGreedy 19 = .ok (.iconst 1, 1) := by decide +kernel
theorem dL_printGreedy_20 : decode cL_printGreedy 20 = .ok (.ireturn, 1) := by decide +kernel
theorem dL_printGreedy_21 : decode cL_printGreedy 21 = .ok (.astore 6, 2) := by decide +kernel
theorem dL_printGreedy_23 : decode cL_printGreedy 23 = .ok (.iconst 2, 1) := by decide +kernel
theorem dL_printGreedy_24 : decode cL_printGreedy 24 = .ok (.ireturn, 1) := by decide +kernel
theorem dL_printGreedy_25 : decode cL_printGreedy 25 = .ok (.astore 6, 2) := by decide +kernel
theorem dL_printGreedy_27 : decode cL_printGreedy 27 = .ok (.iconst 3, 1) := by decide +kernel
theorem dL_printGreedy_28 : decode cL_printGreedy 28 = .ok (.ireturn, 1) := by decide +kernel
theorem dL_printGreedy_29 : decode cL_printGreedy 29 = .ok (.iconst 0, 1) := by decide +kernel
theorem dL_printGreedy_30 : decode cL_printGreedy 30 = .ok (.ireturn, 1) := by decide +kernel
set_option maxRecDepth 20000 in
theorem ggL_length_X10_length : GoodIn wsL_length wsX10_length := goodIn_ca (goodIn_ca (goodIn_r _ [6, 7, 8, 9, 10, 5, 11, 12, 13, 14, 15, 16, 17, 18, 19, 20, 21, 22, 23, 24, 25, 26, 27, 28, 29, 30, 31, 32, 33, 34, 35, 36, 37, 38, 39, 40, 41, 42] (by decide +kernel) (by decide +kernel)) (goodIn_sub (fun _ h => List.mem_cons_of_mem _ (List.mem_append_right _ h)) (by decide +kernel))) (goodIn_sub (fun _ h => List.mem_cons_of_mem _ (List.mem_append_left _ (List.mem_append_right _ h))) (by decide +kernel))
set_option maxRecDepth 20000 in
theorem gL_length_X10_length : GoodIn wsL_length (wsV RL 83 RX10 yX10_length wsX10_length) := goodIn_app (goodIn_of _ (by decide +kernel)) ggL_length_X10_length
theorem dL_length_0 : decode cL_length 0 = .ok (.aload_n 2, 1) := by decide +kernel
theorem dL_length_1 : decode cL_length 1 = .ok (.iconst 0, 1) := by decide +kernel
theorem dL_length_2 : decode cL_length 2 = .ok (.aload_n 0, 1) := by decide +kernel
theorem dL_length_3 : decode cL_length 3 = .ok (.iload_n 1, 1) := by decide +kernel
theorem dL_length_4 : decode cL_length 4 = .ok (.invokevirtual 83, 3) := by decide +kernel
theorem dL_length_7 : decode cL_length 7 = .ok (.i2l, 1) := by decide +kernel
theorem dL_length_8 : decode cL_length 8 = .ok (.lastore, 1) := by decide +kernel
theorem dL_length_9 : decode cL_length 9 = .ok (.goto 6, 3) := by decide +kernel
theorem dL_length_12 : decode cL_length 12 = .ok (.astore_n 3, 1) := by decide +kernel
theorem dL_length_13 : decode cL_length 13 = .ok (.iconst 1, 1) := by decide +kernel
theorem dL_length_14 : decode cL_length 14 = .ok (.ireturn, 1) := by decide +kernel
theorem dL_length_15 : decode cL_length 15 = .ok (.iconst 0, 1) := by decide +kernel
theorem dL_length_16 : decode cL_length 16 = .ok (.ireturn, 1) := by decide +kernel
set_option maxRecDepth 20000 in
theorem ggL_signAt_X10_signAt : GoodIn wsL_signAt wsX10_signAt := goodIn_ca (goodIn_ca (goodIn_r _ [6, 7, 8, 9, 10, 5, 11, 12, 13, 14, 15, 16, 17, 18, 19, 20, 21, 22, 23, 24, 25, 26, 27, 28, 29, 30, 31, 32, 33, 34, 35, 36, 37, 38, 39, 40, 41, 42, 43, 44, 45, 46, 47, 48, 49, 50, 51, 52, 53, 54, 55, 56, 57, 58, 59, 60, 61, 62, 63, 64, 65, 66, 67, 68, 69, 70, 71, 72, 73, 74, 75, 76, 77] (by decide +kernel) (by decide +kernel)) (goodIn_sub (fun _ h => List.mem_cons_of_mem _ (List.mem_append_right _ h)) (by decide +kernel))) (goodIn_sub (fun _ h => List.mem_cons_of_mem _ (List.mem_append_left _ (List.mem_append_right _ h))) (by decide +kernel))
set_option maxRecDepth 20000 in
theorem gL_signAt_X10_signAt : GoodIn wsL_signAt (wsV RL 86 RX10 yX10_signAt wsX10_signAt) := goodIn_app (goodIn_of _ (by decide +kernel)) ggL_signAt_X10_signAt
theorem dL_signAt_0 : decode cL_signAt 0 = .ok (.aload_n 3, 1) := by decide +kernel
theorem dL_signAt_1 : decode cL_signAt 1 = .ok (.iconst 0, 1) := by decide +kernel
theorem dL_signAt_2 : decode cL_signAt 2 = .ok (.aload_n 0, 1) := by decide +kernel
theorem dL_signAt_3 : decode cL_signAt 3 = .ok (.iload_n 1, 1) := by decide +kernel
theorem dL_signAt_4 : decode cL_signAt 4 = .ok (.iload_n 2, 1) := by decide +kernel
theorem dL_signAt_5 : decode cL_signAt 5 = .ok (.invokevirtual 86, 3) := by decide +kernel
theorem dL_signAt_8 : decode cL_signAt 8 = .ok (.i2l, 1) := by decide +kernel
theorem dL_signAt_9 : decode cL_signAt 9 = .ok (.lastore, 1) := by decide +kernel
theorem dL_signAt_10 : decode cL_signAt 10 = .ok (.goto 7, 3) := by decide +kernel
theorem dL_signAt_13 : decode cL_signAt 13 = .ok (.astore 4, 2) := by decide +kernel
theorem dL_signAt_15 : decode cL_signAt 15 = .ok (.iconst 1, 1) := by decide +kernel
theorem dL_signAt_16 : decode cL_signAt 16 = .ok (.ireturn, 1) := by decide +kernel
theorem dL_signAt_17 : decode cL_signAt 17 = .ok (.iconst 0, 1) := by decide +kernel
theorem dL_signAt_18 : decode cL_signAt 18 = .ok (.ireturn, 1) := by decide +kernel
set_option maxRecDepth 20000 in
theorem ggL_nodeAt_X10_nodeAt : GoodIn wsL_nodeAt wsX10_nodeAt := goodIn_ca (goodIn_ca (goodIn_r _ [6, 7, 8, 9, 10, 5, 11, 12, 13, 14, 15, 16, 17, 18, 19, 20, 21, 22, 23, 24, 25, 26, 27, 28, 29, 30, 31, 32, 33, 34, 35, 36, 37, 38, 39, 40, 41, 42, 43, 44, 45, 46, 47, 48, 49, 50, 51, 52, 53, 54, 55, 56, 57, 58, 59, 60, 61, 62, 63, 64, 65, 66, 67, 68, 69] (by decide +kernel) (by decide +kernel)) (goodIn_sub (fun _ h => List.mem_cons_of_mem _ (List.mem_append_right _ h)) (by decide +kernel))) (goodIn_sub (fun _ h => List.mem_cons_of_mem _ (List.mem_append_left _ (List.mem_append_right _ h))) (by decide +kernel))
set_option maxRecDepth 20000 in
theorem gL_nodeAt_X10_nodeAt : GoodIn wsL_nodeAt (wsV RL 90 RX10 yX10_nodeAt wsX10_nodeAt) := goodIn_app (goodIn_of _ (by decide +kernel)) ggL_nodeAt_X10_nodeAt
theorem dL_nodeAt_0 : decode cL_nodeAt 0 = .ok (.aload_n 3, 1) := by decide +kernel
theorem dL_nodeAt_1 : decode cL_nodeAt 1 = .ok (.iconst 0, 1) := by decide +kernel
theorem dL_nodeAt_2 : decode cL_nodeAt 2 = .ok (.aload_n 0, 1) := by decide +kernel
theorem dL_nodeAt_3 : decode cL_nodeAt 3 = .ok (.iload_n 1, 1) := by decide +kernel
theorem dL_nodeAt_4 : decode cL_nodeAt 4 = .ok (.iload_n 2, 1) := by decide +kernel
theorem dL_nodeAt_5 : decode cL_nodeAt 5 = .ok (.invokevirtual 90, 3) := by decide +kernel
theorem dL_nodeAt_8 : decode cL_nodeAt 8 = .ok (.i2l, 1) := by decide +kernel
theorem dL_nodeAt_9 : decode cL_nodeAt 9 = .ok (.lastore, 1) := by decide +kernel
theorem dL_nodeAt_10 : decode cL_nodeAt 10 = .ok (.goto 7, 3) := by decide +kernel
theorem dL_nodeAt_13 : decode cL_nodeAt 13 = .ok (.astore 4, 2) := by decide +kernel
theorem dL_nodeAt_15 : decode cL_nodeAt 15 = .ok (.iconst 1, 1) := by decide +kernel
theorem dL_nodeAt_16 : decode cL_nodeAt 16 = .ok (.ireturn, 1) := by decide +kernel
theorem dL_nodeAt_17 : decode cL_nodeAt 17 = .ok (.iconst 0, 1) := by decide +kernel
theorem dL_nodeAt_18 : decode cL_nodeAt 18 = .ok (.ireturn, 1) := by decide +kernel
set_option maxRecDepth 20000 in
theorem ggL_placeOf_X10_placeOf : GoodIn wsL_placeOf wsX10_placeOf := goodIn_ca (goodIn_ca (goodIn_r _ [6, 7, 8, 9, 10, 5, 11, 12, 13, 14, 15, 16, 17, 18, 19, 20, 21, 22, 23, 24, 25, 26, 27, 28, 29, 30, 31, 32, 33, 34, 35, 36, 37, 38, 39, 40, 41, 42, 43, 44, 45, 46, 47, 48, 49, 50, 51, 52, 53, 54, 55, 56, 57, 58] (by decide +kernel) (by decide +kernel)) (goodIn_sub (fun _ h => List.mem_cons_of_mem _ (List.mem_append_right _ h)) (by decide +kernel))) (goodIn_sub (fun _ h => List.mem_cons_of_mem _ (List.mem_append_left _ (List.mem_append_right _ h))) (by decide +kernel))
set_option maxRecDepth 20000 in
theorem gL_placeOf_X10_placeOf : GoodIn wsL_placeOf (wsV RL 93 RX10 yX10_placeOf wsX10_placeOf) := goodIn_app (goodIn_of _ (by decide +kernel)) ggL_placeOf_X10_placeOf
theorem dL_placeOf_0 : decode cL_placeOf 0 = .ok (.aload_n 2, 1) := by decide +kernel
theorem dL_placeOf_1 : decode cL_placeOf 1 = .ok (.iconst 0, 1) := by decide +kernel
theorem dL_placeOf_2 : decode cL_placeOf 2 = .ok (.aload_n 0, 1) := by decide +kernel
theorem dL_placeOf_3 : decode cL_placeOf 3 = .ok (.iload_n 1, 1) := by decide +kernel
theorem dL_placeOf_4 : decode cL_placeOf 4 = .ok (.invokevirtual 93, 3) := by decide +kernel
theorem dL_placeOf_7 : decode cL_placeOf 7 = .ok (.i2l, 1) := by decide +kernel
theorem dL_placeOf_8 : decode cL_placeOf 8 = .ok (.lastore, 1) := by decide +kernel
theorem dL_placeOf_9 : decode cL_placeOf 9 = .ok (.goto 6, 3) := by decide +kernel
theorem dL_placeOf_12 : decode cL_placeOf 12 = .ok (.astore_n 3, 1) := by decide +kernel
theorem dL_placeOf_13 : decode cL_placeOf 13 = .ok (.iconst 1, 1) := by decide +kernel
theorem dL_placeOf_14 : decode cL_placeOf 14 = .ok (.ireturn, 1) := by decide +kernel
theorem dL_placeOf_15 : decode cL_placeOf 15 = .ok (.iconst 0, 1) := by decide +kernel
theorem dL_placeOf_16 : decode cL_placeOf 16 = .ok (.ireturn, 1) := by decide +kernel
set_option maxRecDepth 20000 in
theorem ggL_wayAt_X10_wayAt : GoodIn wsL_wayAt wsX10_wayAt := goodIn_ca (goodIn_r _ [6, 7, 8, 9, 10, 11, 5, 12, 13, 14, 15, 16, 17, 18, 19, 20, 21, 22, 23, 24, 25, 26, 27, 28, 29, 30, 31, 32, 33, 34, 35, 36, 37] (by decide +kernel) (by decide +kernel)) (goodIn_sub (fun _ h => List.mem_cons_of_mem _ (List.mem_append_right _ h)) (by decide +kernel))
set_option maxRecDepth 20000 in
theorem gL_wayAt_X10_wayAt : GoodIn wsL_wayAt (wsV RL 96 RX10 yX10_wayAt wsX10_wayAt) := goodIn_app (goodIn_of _ (by decide +kernel)) ggL_wayAt_X10_wayAt
theorem dL_wayAt_0 : decode cL_wayAt 0 = .ok (.aload_n 2, 1) := by decide +kernel
theorem dL_wayAt_1 : decode cL_wayAt 1 = .ok (.iconst 0, 1) := by decide +kernel
theorem dL_wayAt_2 : decode cL_wayAt 2 = .ok (.aload_n 0, 1) := by decide +kernel
theorem dL_wayAt_3 : decode cL_wayAt 3 = .ok (.iload_n 1, 1) := by decide +kernel
theorem dL_wayAt_4 : decode cL_wayAt 4 = .ok (.invokevirtual 96, 3) := by decide +kernel
theorem dL_wayAt_7 : decode cL_wayAt 7 = .ok (.i2l, 1) := by decide +kernel
theorem dL_wayAt_8 : decode cL_wayAt 8 = .ok (.lastore, 1) := by decide +kernel
theorem dL_wayAt_9 : decode cL_wayAt 9 = .ok (.goto 6, 3) := by decide +kernel
theorem dL_wayAt_12 : decode cL_wayAt 12 = .ok (.astore_n 3, 1) := by decide +kernel
theorem dL_wayAt_13 : decode cL_wayAt 13 = .ok (.iconst 1, 1) := by decide +kernel
theorem dL_wayAt_14 : decode cL_wayAt 14 = .ok (.ireturn, 1) := by decide +kernel
theorem dL_wayAt_15 : decode cL_wayAt 15 = .ok (.iconst 0, 1) := by decide +kernel
theorem dL_wayAt_16 : decode cL_wayAt 16 = .ok (.ireturn, 1) := by decide +kernel
set_option maxRecDepth 20000 in
theorem ggL_breakPages_X10_breakPages : GoodIn wsL_breakPages wsX10_breakPages := goodIn_ca (goodIn_ca (goodIn_ca (goodIn_r _ [6, 7, 8, 9, 10, 11, 12, 5, 13, 14, 15, 16, 17, 18, 19, 20, 21, 22, 23, 24, 25, 26, 27, 28, 29, 30, 31, 32, 33, 34, 35, 36, 37, 38, 39, 40, 41, 42, 43, 44, 45, 46, 47, 48, 49, 50, 51, 52, 53, 54, 55, 56, 57, 58, 59, 60, 61, 62, 63, 64, 65, 66, 67, 68, 69, 70, 71] (by decide +kernel) (by decide +kernel)) (goodIn_sub (fun _ h => List.mem_cons_of_mem _ (List.mem_append_left _ (List.mem_append_right _ h))) (by decide +kernel))) (goodIn_sub (fun _ h => List.mem_cons_of_mem _ (List.mem_append_right _ h)) (by decide +kernel))) (goodIn_sub (fun _ h => List.mem_cons_of_mem _ (List.mem_append_left _ (List.mem_append_left _ (List.mem_append_right _ h)))) (by decide +kernel))
set_option maxRecDepth 20000 in
theorem gL_breakPages_X10_breakPages : GoodIn wsL_breakPages (wsV RL 99 RX10 yX10_breakPages wsX10_breakPages) := goodIn_app (goodIn_of _ (by decide +kernel)) ggL_breakPages_X10_breakPages
theorem dL_breakPages_0 : decode cL_breakPages 0 = .ok (.aload_n 2, 1) := by decide +kernel
theorem dL_breakPages_1 : decode cL_breakPages 1 = .ok (.iconst 0, 1) := by decide +kernel
theorem dL_breakPages_2 : decode cL_breakPages 2 = .ok (.aload_n 0, 1) := by decide +kernel
theorem dL_breakPages_3 : decode cL_breakPages 3 = .ok (.iload_n 1, 1) := by decide +kernel
theorem dL_breakPages_4 : decode cL_breakPages 4 = .ok (.invokevirtual 99, 3) := by decide +kernel
theorem dL_breakPages_7 : decode cL_breakPages 7 = .ok (.i2l, 1) := by decide +kernel
theorem dL_breakPages_8 : decode cL_breakPages 8 = .ok (.lastore, 1) := by decide +kernel
theorem dL_breakPages_9 : decode cL_breakPages 9 = .ok (.goto 9, 3) := by decide +kernel
theorem dL_breakPages_12 : decode cL_breakPages 12 = .ok (.astore_n 3, 1) := by decide +kernel
theorem dL_breakPages_13 : decode cL_breakPages 13 = .ok (.iconst 1, 1) := by decide +kernel
theorem dL_breakPages_14 : decode cL_breakPages 14 = .ok (.ireturn, 1) := by decide +kernel
theorem dL_breakPages_15 : decode cL_breakPages 15 = .ok (.astore_n 3, 1) := by decide +kernel
theorem dL_breakPages_16 : decode cL_breakPages 16 = .ok (.iconst 2, 1) := by decide +kernel
theorem dL_breakPages_17 : decode cL_breakPages 17 = .ok (.ireturn, 1) := by decide +kernel
theorem dL_breakPages_18 : decode cL_breakPages 18 = .ok (.iconst 0, 1) := by decide +kernel
theorem dL_breakPages_19 : decode cL_breakPages 19 = .ok (.ireturn, 1) := by decide +kernel
set_option maxRecDepth 20000 in
theorem ggL_pageOf_X10_pageOf : GoodIn wsL_pageOf wsX10_pageOf := goodIn_ca (goodIn_ca (goodIn_ca (goodIn_r _ [6, 7, 8, 9, 10, 11, 12, 5, 13, 14, 15, 16, 17, 18, 19, 20, 21, 22, 23, 24, 25, 26, 27, 28, 29, 30, 31, 32, 33, 34, 35, 36, 37, 38, 39, 40, 41, 42, 43, 44, 45, 46, 47, 48, 49] (by decide +kernel) (by decide +kernel)) (goodIn_sub (fun _ h => List.mem_cons_of_mem _ (List.mem_append_left _ (List.mem_append_right _ h))) (by decide +kernel))) (goodIn_sub (fun _ h => List.mem_cons_of_mem _ (List.mem_append_right _ h)) (by decide +kernel))) (goodIn_sub (fun _ h => List.mem_cons_of_mem _ (List.mem_append_left _ (List.mem_append_left _ (List.mem_append_right _ h)))) (by decide +kernel))
set_option maxRecDepth 20000 in
theorem gL_pageOf_X10_pageOf : GoodIn wsL_pageOf (wsV RL 102 RX10 yX10_pageOf wsX10_pageOf) := goodIn_app (goodIn_of _ (by decide +kernel)) ggL_pageOf_X10_pageOf
theorem dL_pageOf_0 : decode cL_pageOf 0 = .ok (.aload_n 2, 1) := by decide +kernel
theorem dL_pageOf_1 : decode cL_pageOf 1 = .ok (.iconst 0, 1) := by decide +kernel
theorem dL_pageOf_2 : decode cL_pageOf 2 = .ok (.aload_n 0, 1) := by decide +kernel
theorem dL_pageOf_3 : decode cL_pageOf 3 = .ok (.iload_n 1, 1) := by decide +kernel
theorem dL_pageOf_4 : decode cL_pageOf 4 = .ok (.invokevirtual 102, 3) := by decide +kernel
theorem dL_pageOf_7 : decode cL_pageOf 7 = .ok (.i2l, 1) := by decide +kernel
theorem dL_pageOf_8 : decode cL_pageOf 8 = .ok (.lastore, 1) := by decide +kernel
theorem dL_pageOf_9 : decode cL_pageOf 9 = .ok (.goto 9, 3) := by decide +kernel
theorem dL_pageOf_12 : decode cL_pageOf 12 = .ok (.astore_n 3, 1) := by decide +kernel
theorem dL_pageOf_13 : decode cL_pageOf 13 = .ok (.iconst 1, 1) := by decide +kernel
theorem dL_pageOf_14 : decode cL_pageOf 14 = .ok (.ireturn, 1) := by decide +kernel
theorem dL_pageOf_15 : decode cL_pageOf 15 = .ok (.astore_n 3, 1) := by decide +kernel
theorem dL_pageOf_16 : decode cL_pageOf 16 = .ok (.iconst 2, 1) := by decide +kernel
theorem dL_pageOf_17 : decode cL_pageOf 17 = .ok (.ireturn, 1) := by decide +kernel
theorem dL_pageOf_18 : decode cL_pageOf 18 = .ok (.iconst 0, 1) := by decide +kernel
theorem dL_pageOf_19 : decode cL_pageOf 19 = .ok (.ireturn, 1) := by decide +kernel
set_option maxRecDepth 20000 in
theorem ggL_law_X10_init : GoodIn wsL_law wsX10_init := goodIn_r _ [9, 10, 11, 12, 13, 14, 15, 16, 17, 18, 19, 20, 21, 22, 23, 24, 25, 26, 27, 28, 29, 30, 31, 32, 33, 34, 35, 36, 37, 38, 39, 40, 41, 42, 43, 44, 45, 46, 47, 48, 49, 50, 51, 52, 53, 54, 55, 56, 57, 58, 59, 60, 61, 62, 63, 64, 65, 66, 67, 68, 69, 70, 71, 6, 72, 73, 74, 75, 76, 77, 78, 79, 80, 81, 82, 83, 84, 85, 86, 87, 88, 89, 90, 91, 92, 93, 94, 95, 96, 97, 98, 99, 100, 101, 102, 103, 104, 105, 106, 107, 108, 109, 110, 111, 112, 1347, 1348, 1349, 1350, 1351, 1352, 1353, 1441, 1442, 1443, 1444, 1445, 1446, 1447, 1448, 1449, 1450, 1451, 1452, 1453, 1454, 1455, 1456, 1457, 1458, 1459, 1460, 1461, 1462, 1463, 1464, 1465, 1466, 1467, 1468, 1469, 1470, 1471, 1472, 1473, 1474, 1475, 1476, 1477, 1478, 1479, 1480, 1481, 1482, 1483, 1484, 1485, 1486, 1487, 1488, 1489, 1490, 1491, 1492, 1493, 1494, 1495, 1496, 1497, 1498, 1499, 1500, 1501] (by decide +kernel) (by decide +kernel)
set_option maxRecDepth 20000 in
theorem gL_law_X10_init : GoodIn wsL_law (wsX10_init) := ggL_law_X10_init
set_option maxRecDepth 20000 in
theorem ggL_law_X11_init : GoodIn wsL_law wsX11_init := goodIn_r _ [115, 116, 11, 12, 40, 117, 118, 119, 120, 121, 122, 123, 124, 125, 126, 127, 128, 129, 130, 131, 132, 133, 134, 135, 136, 137, 138, 139, 140, 141, 142, 143, 144, 145, 146, 147, 148, 149, 150, 151, 152, 153, 154, 155, 156, 157, 158, 159, 160, 161, 162, 163, 164, 165, 166, 167, 168, 169, 170, 171, 172, 173, 174, 175, 176, 177, 178, 179, 1354, 1355, 1356, 1357, 1358, 1359, 1360, 1361, 1362, 1363, 1364, 1365, 1366, 1367, 1368, 1369, 1370, 1371, 1372, 1373, 1374, 1375, 1376, 1377, 1378, 1379, 1380, 1381, 1382, 1383, 1384, 1385, 1386, 1387, 1388, 1389, 1390, 1391, 1392, 1393, 1394, 1395, 1396, 1397, 1398, 1399, 1400, 1401, 1402, 1403, 1404, 1405, 1406, 1407, 1408, 1409, 1410, 1411, 1412, 1413, 1414, 1415, 1416, 1417, 1418, 1419, 1420, 1421, 1422, 1423, 1424, 1425, 1426, 1427, 1428, 1429, 1430, 1431, 1432, 1433, 1434, 1435, 1436, 1437, 1438, 1439, 1440] (by decide +kernel) (by decide +kernel)
set_option maxRecDepth 20000 in
theorem gL_law_X11_init : GoodIn wsL_law (wsX11_init) := ggL_law_X11_init
set_option maxRecDepth 20000 in
theorem ggL_law_L_text : GoodIn wsL_law wsL_text := goodIn_ca (goodIn_ca (goodIn_ca (goodIn_r _ [183, 184, 185, 186, 187, 2, 188, 13, 189, 190, 191, 192, 193, 194, 195, 196, 197, 198, 199, 200, 11, 12, 201, 202, 203, 204, 205, 206, 207, 208, 209, 210, 211, 212, 213, 214, 215, 216, 217, 218, 219, 220, 221, 222, 223, 224, 225, 226, 227, 228, 229, 15, 14, 230, 231, 232, 233, 234, 235, 236, 237, 238, 239, 1502, 1503, 1504, 1505, 1506, 1507, 1508, 1509, 1510, 1511, 1512, 1513, 1514, 1515, 1516, 1347, 1348, 1349, 1350, 1351, 1352, 1353] (by decide +kernel) (by decide +kernel)) (goodIn_sub (fun _ h => List.mem_append_left _ (List.mem_append_left _ (List.mem_append_left _ (List.mem_append_right _ h)))) (by decide +kernel))) (goodIn_sub (fun _ h => List.mem_append_left _ (List.mem_append_left _ (List.mem_append_right _ h))) (by decide +kernel))) (goodIn_sub (fun _ h => List.mem_append_left _ (List.mem_append_right _ h)) (by decide +kernel))
set_option maxRecDepth 20000 in
theorem gL_law_L_text : GoodIn wsL_law (va_wsS RL 109 yL_text wsL_text) := goodIn_app (goodIn_of _ (by decide +kernel)) ggL_law_L_text
set_option maxRecDepth 20000 in
theorem ggL_law_X11_text : GoodIn wsL_law wsX11_text := goodIn_ca (goodIn_r _ [243, 179, 244, 245, 246, 5, 247, 248, 249, 250, 251, 117, 118, 119, 120, 121, 122, 123, 124, 125, 126, 127, 129, 1354, 1355, 1356, 1357, 1358, 1359, 1360, 1361, 1362, 1363, 1364, 1365, 1366, 1367, 1368, 1369, 1370, 1371, 1372, 1373, 1374, 1375, 1376, 1377, 1378, 1379, 1380, 1381, 1382, 1383, 1384, 1385, 1386, 1387, 1388, 1389, 1390, 1391, 1392, 1393, 1394, 1395, 1396, 1397, 1398, 1399, 1400, 1401, 1402, 1403, 1404, 1405, 1406, 1407, 1408, 1409, 1410, 1411, 1412, 1413, 1414, 1415, 1416, 1417, 1418, 1419, 1420, 1421, 1422, 1423, 1424, 1425, 1426, 1427, 1428, 1429, 1430, 1431, 1432, 1433, 1434, 1435, 1436, 1437, 1438, 1439, 1440] (by decide +kernel) (by decide +kernel)) (goodIn_sub (fun _ h => List.mem_append_left _ (List.mem_append_left _ (List.mem_append_left _ (List.mem_append_right _ h)))) (by decide +kernel))
set_option maxRecDepth 20000 in
theorem gL_law_X11_text : GoodIn wsL_law (wsV RL 114 RX11 yX11_text wsX11_text) := goodIn_app (goodIn_of _ (by decide +kernel)) ggL_law_X11_text
set_option maxRecDepth 20000 in
theorem ggL_law_X11_thrown : GoodIn wsL_law wsX11_thrown := goodIn_r _ [255, 244, 1354, 1355, 1356, 1357, 1358, 1359, 1360, 1361, 1362, 1363, 1364, 1365, 1366, 1367, 1368, 1369, 1370, 1371, 1372, 1373, 1374, 1375, 1376, 1377, 1378, 1379, 1380, 1381, 1382, 1383, 1384, 1385, 1386, 1387, 1388, 1389, 1390, 1391, 1392, 1393, 1394, 1395, 1396, 1397, 1398, 1399, 1400, 1401, 1402, 1403, 1404, 1405, 1406, 1407, 1408, 1409, 1410, 1411, 1412, 1413, 1414, 1415, 1416, 1417, 1418, 1419, 1420, 1421, 1422, 1423, 1424, 1425, 1426, 1427, 1428, 1429, 1430, 1431, 1432, 1433, 1434, 1435, 1436, 1437, 1438, 1439, 1440] (by decide +kernel) (by decide +kernel)
set_option maxRecDepth 20000 in
theorem gL_law_X11_thrown : GoodIn wsL_law (wsV RL 115 RX11 yX11_thrown wsX11_thrown) := goodIn_app (goodIn_of _ (by decide +kernel)) ggL_law_X11_thrown
set_option maxRecDepth 20000 in
theorem ggL_law_L_remark : GoodIn wsL_law wsL_remark := goodIn_ca (goodIn_ca (goodIn_ca (goodIn_r _ [258, 184, 259, 260, 261, 2, 262, 13, 189, 190, 263, 192, 193, 194, 195, 196, 197, 198, 199, 200, 11, 12, 201, 202, 203, 204, 205, 206, 207, 208, 209, 210, 211, 212, 213, 214, 215, 216, 217, 218, 219, 220, 221, 222, 223, 224, 225, 226, 227, 228, 229, 15, 14, 230, 231, 232, 233, 234, 235, 236, 237, 238, 239, 1502, 1503, 1504, 1505, 1506, 1507, 1508, 1509, 1510, 1511, 1512, 1513, 1514, 1515, 1516, 1347, 1348, 1349, 1350, 1351, 1352, 1353] (by decide +kernel) (by decide +kernel)) (goodIn_sub (fun _ h => List.mem_append_left _ (List.mem_append_left _ (List.mem_append_left _ (List.mem_append_right _ h)))) (by decide +kernel))) (goodIn_sub (fun _ h => List.mem_append_left _ (List.mem_append_left _ (List.mem_append_right _ h))) (by decide +kernel))) (goodIn_sub (fun _ h => List.mem_append_left _ (List.mem_append_right _ h)) (by decide +kernel))
set_option maxRecDepth 20000 in
theorem gL_law_L_remark : GoodIn wsL_law (va_wsS RL 118 yL_remark wsL_remark) := goodIn_app (goodIn_of _ (by decide +kernel)) ggL_law_L_remark
set_option maxRecDepth 20000 in
theorem ggL_law_X11_remark : GoodIn wsL_law wsX11_remark := goodIn_ca (goodIn_r _ [267, 179, 244, 245, 246, 5, 247, 248, 249, 250, 251, 117, 118, 119, 120, 121, 122, 123, 124, 125, 126, 127, 129, 1354, 1355, 1356, 1357, 1358, 1359, 1360, 1361, 1362, 1363, 1364, 1365, 1366, 1367, 1368, 1369, 1370, 1371, 1372, 1373, 1374, 1375, 1376, 1377, 1378, 1379, 1380, 1381, 1382, 1383, 1384, 1385, 1386, 1387, 1388, 1389, 1390, 1391, 1392, 1393, 1394, 1395, 1396, 1397, 1398, 1399, 1400, 1401, 1402, 1403, 1404, 1405, 1406, 1407, 1408, 1409, 1410, 1411, 1412, 1413, 1414, 1415, 1416, 1417, 1418, 1419, 1420, 1421, 1422, 1423, 1424, 1425, 1426, 1427, 1428, 1429, 1430, 1431, 1432, 1433, 1434, 1435, 1436, 1437, 1438, 1439, 1440] (by decide +kernel) (by decide +kernel)) (goodIn_sub (fun _ h => List.mem_append_left _ (List.mem_append_left _ (List.mem_append_left _ (List.mem_append_right _ h)))) (by decide +kernel))
set_option maxRecDepth 20000 in
theorem gL_law_X11_remark : GoodIn wsL_law (wsV RL 120 RX11 yX11_remark wsX11_remark) := goodIn_app (goodIn_of _ (by decide +kernel)) ggL_law_X11_remark
set_option maxRecDepth 20000 in
theorem ggL_law_L_line : GoodIn wsL_law wsL_line := goodIn_ca (goodIn_ca (goodIn_r _ [270, 271, 272, 273, 274, 2, 275, 13, 189, 190, 276, 197, 198, 199, 200, 11, 12, 201, 202, 203, 204, 205, 206, 207, 208, 209, 210, 211, 212, 213, 214, 215, 216, 217, 218, 219, 220, 221, 222, 223, 224, 225, 226, 227, 228, 229, 15, 14, 230, 231, 232, 233, 234, 235, 236, 237, 238, 239, 1502, 1503, 1504, 1505, 1506, 1507, 1508, 1509, 1510, 1511, 1512, 1513, 1514, 1515, 1516, 1347, 1348, 1349, 1350, 1351, 1352, 1353] (by decide +kernel) (by decide +kernel)) (goodIn_sub (fun _ h => List.mem_append_left _ (List.mem_append_left _ (List.mem_append_left _ (List.mem_append_right _ h)))) (by decide +kernel))) (goodIn_sub (fun _ h => List.mem_append_left _ (List.mem_append_right _ h)) (by decide +kernel))
set_option maxRecDepth 20000 in
theorem gL_law_L_line : GoodIn wsL_law (va_wsS RL 121 yL_line wsL_line) := goodIn_app (goodIn_of _ (by decide +kernel)) ggL_law_L_line
set_option maxRecDepth 20000 in
theorem ggL_law_X11_line : GoodIn wsL_law wsX11_line := goodIn_ca (goodIn_r _ [280, 281, 282, 283, 5, 284, 179, 244, 248, 249, 250, 251, 117, 118, 119, 120, 121, 122, 123, 124, 125, 126, 127, 129, 1354, 1355, 1356, 1357, 1358, 1359, 1360, 1361, 1362, 1363, 1364, 1365, 1366, 1367, 1368, 1369, 1370, 1371, 1372, 1373, 1374, 1375, 1376, 1377, 1378, 1379, 1380, 1381, 1382, 1383, 1384, 1385, 1386, 1387, 1388, 1389, 1390, 1391, 1392, 1393, 1394, 1395, 1396, 1397, 1398, 1399, 1400, 1401, 1402, 1403, 1404, 1405, 1406, 1407, 1408, 1409, 1410, 1411, 1412, 1413, 1414, 1415, 1416, 1417, 1418, 1419, 1420, 1421, 1422, 1423, 1424, 1425, 1426, 1427, 1428, 1429, 1430, 1431, 1432, 1433, 1434, 1435, 1436, 1437, 1438, 1439, 1440] (by decide +kernel) (by decide +kernel)) (goodIn_sub (fun _ h => List.mem_append_left _ (List.mem_append_left _ (List.mem_append_left _ (List.mem_append_right _ h)))) (by decide +kernel))
set_option maxRecDepth 20000 in
theorem gL_law_X11_line : GoodIn wsL_law (wsV RL 124 RX11 yX11_line wsX11_line) := goodIn_app (goodIn_of _ (by decide +kernel)) ggL_law_X11_line
set_option maxRecDepth 20000 in
theorem ggL_law_L_soft : GoodIn wsL_law wsL_soft := goodIn_ca (goodIn_ca (goodIn_r _ [287, 271, 288, 289, 290, 2, 291, 13, 189, 190, 292, 197, 198, 199, 200, 11, 12, 201, 202, 203, 204, 205, 206, 207, 208, 209, 210, 211, 212, 213, 214, 215, 216, 217, 218, 219, 220, 221, 222, 223, 224, 225, 226, 227, 228, 229, 15, 14, 230, 231, 232, 233, 234, 235, 236, 237, 238, 239, 1502, 1503, 1504, 1505, 1506, 1507, 1508, 1509, 1510, 1511, 1512, 1513, 1514, 1515, 1516, 1347, 1348, 1349, 1350, 1351, 1352, 1353] (by decide +kernel) (by decide +kernel)) (goodIn_sub (fun _ h => List.mem_append_left _ (List.mem_append_left _ (List.mem_append_left _ (List.mem_append_right _ h)))) (by decide +kernel))) (goodIn_sub (fun _ h => List.mem_append_left _ (List.mem_append_right _ h)) (by decide +kernel))
set_option maxRecDepth 20000 in
theorem gL_law_L_soft : GoodIn wsL_law (va_wsS RL 125 yL_soft wsL_soft) := goodIn_app (goodIn_of _ (by decide +kernel)) ggL_law_L_soft
set_option maxRecDepth 20000 in
theorem ggL_law_X11_soft : GoodIn wsL_law wsX11_soft := goodIn_ca (goodIn_r _ [296, 281, 282, 283, 5, 284, 179, 244, 248, 249, 250, 251, 117, 118, 119, 120, 121, 122, 123, 124, 125, 126, 127, 129, 1354, 1355, 1356, 1357, 1358, 1359, 1360, 1361, 1362, 1363, 1364, 1365, 1366, 1367, 1368, 1369, 1370, 1371, 1372, 1373, 1374, 1375, 1376, 1377, 1378, 1379, 1380, 1381, 1382, 1383, 1384, 1385, 1386, 1387, 1388, 1389, 1390, 1391, 1392, 1393, 1394, 1395, 1396, 1397, 1398, 1399, 1400, 1401, 1402, 1403, 1404, 1405, 1406, 1407, 1408, 1409, 1410, 1411, 1412, 1413, 1414, 1415, 1416, 1417, 1418, 1419, 1420, 1421, 1422, 1423, 1424, 1425, 1426, 1427, 1428, 1429, 1430, 1431, 1432, 1433, 1434, 1435, 1436, 1437, 1438, 1439, 1440] (by decide +kernel) (by decide +kernel)) (goodIn_sub (fun _ h => List.mem_append_left _ (List.mem_append_left _ (List.mem_append_left _ (List.mem_append_right _ h)))) (by decide +kernel))
set_option maxRecDepth 20000 in
theorem gL_law_X11_soft : GoodIn wsL_law (wsV RL 127 RX11 yX11_soft wsX11_soft) := goodIn_app (goodIn_of _ (by decide +kernel)) ggL_law_X11_soft
set_option maxRecDepth 20000 in
theorem ggL_law_L_hard : GoodIn wsL_law wsL_hard := goodIn_ca (goodIn_ca (goodIn_r _ [299, 271, 300, 301, 302, 2, 303, 13, 189, 190, 304, 197, 198, 199, 200, 11, 12, 201, 202, 203, 204, 205, 206, 207, 208, 209, 210, 211, 212, 213, 214, 215, 216, 217, 218, 219, 220, 221, 222, 223, 224, 225, 226, 227, 228, 229, 15, 14, 230, 231, 232, 233, 234, 235, 236, 237, 238, 239, 1502, 1503, 1504, 1505, 1506, 1507, 1508, 1509, 1510, 1511, 1512, 1513, 1514, 1515, 1516, 1347, 1348, 1349, 1350, 1351, 1352, 1353] (by decide +kernel) (by decide +kernel)) (goodIn_sub (fun _ h => List.mem_append_left _ (List.mem_append_left _ (List.mem_append_left _ (List.mem_append_right _ h)))) (by decide +kernel))) (goodIn_sub (fun _ h => List.mem_append_left _ (List.mem_append_right _ h)) (by decide +kernel))
set_option maxRecDepth 20000 in
theorem gL_law_L_hard : GoodIn wsL_law (va_wsS RL 128 yL_hard wsL_hard) := goodIn_app (goodIn_of _ (by decide +kernel)) ggL_law_L_hard
set_option maxRecDepth 20000 in
theorem ggL_law_X11_hard : GoodIn wsL_law wsX11_hard := goodIn_ca (goodIn_r _ [308, 281, 282, 283, 5, 284, 179, 244, 248, 249, 250, 251, 117, 118, 119, 120, 121, 122, 123, 124, 125, 126, 127, 129, 1354, 1355, 1356, 1357, 1358, 1359, 1360, 1361, 1362, 1363, 1364, 1365, 1366, 1367, 1368, 1369, 1370, 1371, 1372, 1373, 1374, 1375, 1376, 1377, 1378, 1379, 1380, 1381, 1382, 1383, 1384, 1385, 1386, 1387, 1388, 1389, 1390, 1391, 1392, 1393, 1394, 1395, 1396, 1397, 1398, 1399, 1400, 1401, 1402, 1403, 1404, 1405, 1406, 1407, 1408, 1409, 1410, 1411, 1412, 1413, 1414, 1415, 1416, 1417, 1418, 1419, 1420, 1421, 1422, 1423, 1424, 1425, 1426, 1427, 1428, 1429, 1430, 1431, 1432, 1433, 1434, 1435, 1436, 1437, 1438, 1439, 1440] (by decide +kernel) (by decide +kernel)) (goodIn_sub (fun _ h => List.mem_append_left _ (List.mem_append_left _ (List.mem_append_left _ (List.mem_append_right _ h)))) (by decide +kernel))
set_option maxRecDepth 20000 in
theorem gL_law_X11_hard : GoodIn wsL_law (wsV RL 130 RX11 yX11_hard wsX11_hard) := goodIn_app (goodIn_of _ (by decide +kernel)) ggL_law_X11_hard
set_option maxRecDepth 20000 in
theorem ggL_law_L_tab : GoodIn wsL_law wsL_tab := goodIn_ca (goodIn_ca (goodIn_ca (goodIn_r _ [311, 184, 312, 313, 314, 2, 315, 13, 189, 190, 316, 192, 193, 194, 195, 196, 197, 198, 199, 200, 11, 12, 201, 202, 203, 204, 205, 206, 207, 208, 209, 210, 211, 212, 213, 214, 215, 216, 217, 218, 219, 220, 221, 222, 223, 224, 225, 226, 227, 228, 229, 15, 14, 230, 231, 232, 233, 234, 235, 236, 237, 238, 239, 1502, 1503, 1504, 1505, 1506, 1507, 1508, 1509, 1510, 1511, 1512, 1513, 1514, 1515, 1516, 1347, 1348, 1349, 1350, 1351, 1352, 1353] (by decide +kernel) (by decide +kernel)) (goodIn_sub (fun _ h => List.mem_append_left _ (List.mem_append_left _ (List.mem_append_left _ (List.mem_append_right _ h)))) (by decide +kernel))) (goodIn_sub (fun _ h => List.mem_append_left _ (List.mem_append_left _ (List.mem_append_right _ h))) (by decide +kernel))) (goodIn_sub (fun _ h => List.mem_append_left _ (List.mem_append_right _ h)) (by decide +kernel))
set_option maxRecDepth 20000 in
theorem gL_law_L_tab : GoodIn wsL_law (va_wsS RL 131 yL_tab wsL_tab) := goodIn_app (goodIn_of _ (by decide +kernel)) ggL_law_L_tab
set_option maxRecDepth 20000 in
theorem ggL_law_X11_tab : GoodIn wsL_law wsX11_tab := goodIn_ca (goodIn_r _ [320, 179, 244, 245, 246, 5, 247, 248, 249, 250, 251, 117, 118, 119, 120, 121, 122, 123, 124, 125, 126, 127, 129, 1354, 1355, 1356, 1357, 1358, 1359, 1360, 1361, 1362, 1363, 1364, 1365, 1366, 1367, 1368, 1369, 1370, 1371, 1372, 1373, 1374, 1375, 1376, 1377, 1378, 1379, 1380, 1381, 1382, 1383, 1384, 1385, 1386, 1387, 1388, 1389, 1390, 1391, 1392, 1393, 1394, 1395, 1396, 1397, 1398, 1399, 1400, 1401, 1402, 1403, 1404, 1405, 1406, 1407, 1408, 1409, 1410, 1411, 1412, 1413, 1414, 1415, 1416, 1417, 1418, 1419, 1420, 1421, 1422, 1423, 1424, 1425, 1426, 1427, 1428, 1429, 1430, 1431, 1432, 1433, 1434, 1435, 1436, 1437, 1438, 1439, 1440] (by decide +kernel) (by decide +kernel)) (goodIn_sub (fun _ h => List.mem_append_left _ (List.mem_append_left _ (List.mem_append_left _ (List.mem_append_right _ h)))) (by decide +kernel))
set_option maxRecDepth 20000 in
theorem gL_law_X11_tab : GoodIn wsL_law (wsV RL 134 RX11 yX11_tab wsX11_tab) := goodIn_app (goodIn_of _ (by decide +kernel)) ggL_law_X11_tab
set_option maxRecDepth 20000 in
theorem ggL_law_L_pair : GoodIn wsL_law wsL_pair := goodIn_ca (goodIn_ca (goodIn_ca (goodIn_r _ [323, 324, 325, 326, 327, 2, 328, 13, 189, 190, 329, 330, 331, 332, 333, 334, 335, 15, 14, 336, 337, 338, 200, 11, 12, 201, 202, 203, 204, 339, 340, 341, 342, 205, 235, 209, 208, 343, 344, 206, 207, 345, 346, 210, 211, 347, 348, 349, 350, 351, 352, 353, 354, 355, 356, 357, 358, 359, 360, 361, 362, 363, 364, 224, 225, 226, 227, 228, 229, 230, 231, 232, 233, 234, 236, 237, 238, 239, 1502, 1503, 1504, 1505, 1506, 1507, 1508, 1509, 1510, 1511, 1512, 1513, 1514, 1515, 1516, 1347, 1348, 1349, 1350, 1351, 1352, 1353] (by decide +kernel) (by decide +kernel)) (goodIn_sub (fun _ h => List.mem_append_left _ (List.mem_append_left _ (List.mem_append_left _ (List.mem_append_right _ h)))) (by decide +kernel))) (goodIn_sub (fun _ h => List.mem_append_right _ h) (by decide +kernel))) (goodIn_sub (fun _ h => List.mem_append_left _ (List.mem_append_right _ h)) (by decide +kernel))
set_option maxRecDepth 20000 in
theorem gL_law_L_pair : GoodIn wsL_law (va_wsS RL 135 yL_pair wsL_pair) := goodIn_app (goodIn_of _ (by decide +kernel)) ggL_law_L_pair
set_option maxRecDepth 20000 in
theorem ggL_law_X11_pair : GoodIn wsL_law wsX11_pair := goodIn_ca (goodIn_r _ [368, 369, 370, 371, 5, 372, 244, 373, 374, 375, 376, 179, 245, 246, 247, 377, 378, 379, 380, 381, 382, 383, 384, 117, 118, 120, 121, 122, 123, 124, 125, 126, 127, 129, 385, 386, 387, 388, 389, 390, 391, 392, 1354, 1355, 1356, 1357, 1358, 1359, 1360, 1361, 1362, 1363, 1364, 1365, 1366, 1367, 1368, 1369, 1370, 1371, 1372, 1373, 1374, 1375, 1376, 1377, 1378, 1379, 1380, 1381, 1382, 1383, 1384, 1385, 1386, 1387, 1388, 1389, 1390, 1391, 1392, 1393, 1394, 1395, 1396, 1397, 1398, 1399, 1400, 1401, 1402, 1403, 1404, 1405, 1406, 1407, 1408, 1409, 1410, 1411, 1412, 1413, 1414, 1415, 1416, 1417, 1418, 1419, 1420, 1421, 1422, 1423, 1424, 1425, 1426, 1427, 1428, 1429, 1430, 1431, 1432, 1433, 1434, 1435, 1436, 1437, 1438, 1439, 1440] (by decide +kernel) (by decide +kernel)) (goodIn_sub (fun _ h => List.mem_append_left _ (List.mem_append_left _ (List.mem_append_left _ (List.mem_append_right _ h)))) (by decide +kernel))
set_option maxRecDepth 20000 in
theorem gL_law_X11_pair : GoodIn wsL_law (wsV RL 137 RX11 yX11_pair wsX11_pair) := goodIn_app (goodIn_of _ (by decide +kernel)) ggL_law_X11_pair
set_option maxRecDepth 20000 in
theorem ggL_law_L_nest : GoodIn wsL_law wsL_nest := goodIn_ca (goodIn_ca (goodIn_ca (goodIn_ca (goodIn_r _ [395, 324, 396, 397, 398, 2, 399, 13, 189, 190, 400, 330, 331, 332, 333, 334, 335, 15, 14, 192, 193, 194, 195, 196, 336, 337, 338, 200, 11, 12, 201, 202, 203, 204, 339, 340, 341, 342, 205, 235, 209, 208, 343, 344, 206, 207, 345, 346, 210, 211, 347, 348, 349, 350, 351, 352, 353, 354, 355, 356, 357, 358, 359, 360, 361, 362, 363, 364, 224, 225, 226, 227, 228, 229, 230, 231, 232, 233, 234, 236, 237, 238, 239, 1502, 1503, 1504, 1505, 1506, 1507, 1508, 1509, 1510, 1511, 1512, 1513, 1514, 1515, 1516, 1347, 1348, 1349, 1350, 1351, 1352, 1353] (by decide +kernel) (by decide +kernel)) (goodIn_sub (fun _ h => List.mem_append_left _ (List.mem_append_left _ (List.mem_append_left _ (List.mem_append_right _ h)))) (by decide +kernel))) (goodIn_sub (fun _ h => List.mem_append_right _ h) (by decide +kernel))) (goodIn_sub (fun _ h => List.mem_append_left _ (List.mem_append_left _ (List.mem_append_right _ h))) (by decide +kernel))) (goodIn_sub (fun _ h => List.mem_append_left _ (List.mem_append_right _ h)) (by decide +kernel))
set_option maxRecDepth 20000 in
theorem gL_law_L_nest : GoodIn wsL_law (va_wsS RL 138 yL_nest wsL_nest) := goodIn_app (goodIn_of _ (by decide +kernel)) ggL_law_L_nest
set_option maxRecDepth 20000 in
theorem ggL_law_X11_nest : GoodIn wsL_law wsX11_nest := goodIn_ca (goodIn_r _ [404, 245, 246, 5, 247, 405, 406, 407, 408, 244, 373, 374, 375, 376, 179, 377, 378, 379, 380, 381, 382, 383, 384, 117, 118, 120, 121, 122, 123, 124, 125, 126, 127, 129, 385, 386, 387, 388, 389, 390, 391, 392, 1354, 1355, 1356, 1357, 1358, 1359, 1360, 1361, 1362, 1363, 1364, 1365, 1366, 1367, 1368, 1369, 1370, 1371, 1372, 1373, 1374, 1375, 1376, 1377, 1378, 1379, 1380, 1381, 1382, 1383, 1384, 1385, 1386, 1387, 1388, 1389, 1390, 1391, 1392, 1393, 1394, 1395, 1396, 1397, 1398, 1399, 1400, 1401, 1402, 1403, 1404, 1405, 1406, 1407, 1408, 1409, 1410, 1411, 1412, 1413, 1414, 1415, 1416, 1417, 1418, 1419, 1420, 1421, 1422, 1423, 1424, 1425, 1426, 1427, 1428, 1429, 1430, 1431, 1432, 1433, 1434, 1435, 1436, 1437, 1438, 1439, 1440] (by decide +kernel) (by decide +kernel)) (goodIn_sub (fun _ h => List.mem_append_left _ (List.mem_append_left _ (List.mem_append_left _ (List.mem_append_right _ h)))) (by decide +kernel))
set_option maxRecDepth 20000 in
theorem gL_law_X11_nest : GoodIn wsL_law (wsV RL 140 RX11 yX11_nest wsX11_nest) := goodIn_app (goodIn_of _ (by decide +kernel)) ggL_law_X11_nest
set_option maxRecDepth 20000 in
theorem ggL_law_L_align : GoodIn wsL_law wsL_align := goodIn_ca (goodIn_ca (goodIn_ca (goodIn_r _ [411, 324, 412, 413, 414, 2, 415, 13, 189, 190, 416, 330, 331, 332, 333, 334, 335, 15, 14, 336, 337, 338, 200, 11, 12, 201, 202, 203, 204, 339, 340, 341, 342, 205, 235, 209, 208, 343, 344, 206, 207, 345, 346, 210, 211, 347, 348, 349, 350, 351, 352, 353, 354, 355, 356, 357, 358, 359, 360, 361, 362, 363, 364, 224, 225, 226, 227, 228, 229, 230, 231, 232, 233, 234, 236, 237, 238, 239, 1502, 1503, 1504, 1505, 1506, 1507, 1508, 1509, 1510, 1511, 1512, 1513, 1514, 1515, 1516, 1347, 1348, 1349, 1350, 1351, 1352, 1353] (by decide +kernel) (by decide +kernel)) (goodIn_sub (fun _ h => List.mem_append_left _ (List.mem_append_left _ (List.mem_append_left _ (List.mem_append_right _ h)))) (by decide +kernel))) (goodIn_sub (fun _ h => List.mem_append_right _ h) (by decide +kernel))) (goodIn_sub (fun _ h => List.mem_append_left _ (List.mem_append_right _ h)) (by decide +kernel))
set_option maxRecDepth 20000 in
theorem gL_law_L_align : GoodIn wsL_law (va_wsS RL 141 yL_align wsL_align) := goodIn_app (goodIn_of _ (by decide +kernel)) ggL_law_L_align
set_option maxRecDepth 20000 in
theorem ggL_law_X11_align : GoodIn wsL_law wsX11_align := goodIn_ca (goodIn_r _ [420, 405, 406, 407, 5, 408, 244, 373, 374, 375, 376, 179, 245, 246, 247, 377, 378, 379, 380, 381, 382, 383, 384, 117, 118, 120, 121, 122, 123, 124, 125, 126, 127, 129, 385, 386, 387, 388, 389, 390, 391, 392, 1354, 1355, 1356, 1357, 1358, 1359, 1360, 1361, 1362, 1363, 1364, 1365, 1366, 1367, 1368, 1369, 1370, 1371, 1372, 1373, 1374, 1375, 1376, 1377, 1378, 1379, 1380, 1381, 1382, 1383, 1384, 1385, 1386, 1387, 1388, 1389, 1390, 1391, 1392, 1393, 1394, 1395, 1396, 1397, 1398, 1399, 1400, 1401, 1402, 1403, 1404, 1405, 1406, 1407, 1408, 1409, 1410, 1411, 1412, 1413, 1414, 1415, 1416, 1417, 1418, 1419, 1420, 1421, 1422, 1423, 1424, 1425, 1426, 1427, 1428, 1429, 1430, 1431, 1432, 1433, 1434, 1435, 1436, 1437, 1438, 1439, 1440] (by decide +kernel) (by decide +kernel)) (goodIn_sub (fun _ h => List.mem_append_left _ (List.mem_append_left _ (List.mem_append_left _ (List.mem_append_right _ h)))) (by decide +kernel))
set_option maxRecDepth 20000 in
theorem gL_law_X11_align : GoodIn wsL_law (wsV RL 143 RX11 yX11_align wsX11_align) := goodIn_app (goodIn_of _ (by decide +kernel)) ggL_law_X11_align
set_option maxRecDepth 20000 in
theorem ggL_law_L_group : GoodIn wsL_law wsL_group := goodIn_ca (goodIn_ca (goodIn_ca (goodIn_r _ [423, 324, 424, 425, 426, 2, 427, 13, 189, 190, 428, 330, 331, 332, 333, 334, 335, 15, 14, 336, 337, 338, 200, 11, 12, 201, 202, 203, 204, 339, 340, 341, 342, 205, 235, 209, 208, 343, 344, 206, 207, 345, 346, 210, 211, 347, 348, 349, 350, 351, 352, 353, 354, 355, 356, 357, 358, 359, 360, 361, 362, 363, 364, 224, 225, 226, 227, 228, 229, 230, 231, 232, 233, 234, 236, 237, 238, 239, 1502, 1503, 1504, 1505, 1506, 1507, 1508, 1509, 1510, 1511, 1512, 1513, 1514, 1515, 1516, 1347, 1348, 1349, 1350, 1351, 1352, 1353] (by decide +kernel) (by decide +kernel)) (goodIn_sub (fun _ h => List.mem_append_left _ (List.mem_append_left _ (List.mem_append_left _ (List.mem_append_right _ h)))) (by decide +kernel))) (goodIn_sub (fun _ h => List.mem_append_right _ h) (by decide +kernel))) (goodIn_sub (fun _ h => List.mem_append_left _ (List.mem_append_right _ h)) (by decide +kernel))
set_option maxRecDepth 20000 in
theorem gL_law_L_group : GoodIn wsL_law (va_wsS RL 144 yL_group wsL_group) := goodIn_app (goodIn_of _ (by decide +kernel)) ggL_law_L_group
set_option maxRecDepth 20000 in
theorem ggL_law_X11_group : GoodIn wsL_law wsX11_group := goodIn_ca (goodIn_r _ [432, 405, 406, 407, 5, 408, 244, 373, 374, 375, 376, 179, 245, 246, 247, 377, 378, 379, 380, 381, 382, 383, 384, 117, 118, 120, 121, 122, 123, 124, 125, 126, 127, 129, 385, 386, 387, 388, 389, 390, 391, 392, 1354, 1355, 1356, 1357, 1358, 1359, 1360, 1361, 1362, 1363, 1364, 1365, 1366, 1367, 1368, 1369, 1370, 1371, 1372, 1373, 1374, 1375, 1376, 1377, 1378, 1379, 1380, 1381, 1382, 1383, 1384, 1385, 1386, 1387, 1388, 1389, 1390, 1391, 1392, 1393, 1394, 1395, 1396, 1397, 1398, 1399, 1400, 1401, 1402, 1403, 1404, 1405, 1406, 1407, 1408, 1409, 1410, 1411, 1412, 1413, 1414, 1415, 1416, 1417, 1418, 1419, 1420, 1421, 1422, 1423, 1424, 1425, 1426, 1427, 1428, 1429, 1430, 1431, 1432, 1433, 1434, 1435, 1436, 1437, 1438, 1439, 1440] (by decide +kernel) (by decide +kernel)) (goodIn_sub (fun _ h => List.mem_append_left _ (List.mem_append_left _ (List.mem_append_left _ (List.mem_append_right _ h)))) (by decide +kernel))
set_option maxRecDepth 20000 in
theorem gL_law_X11_group : GoodIn wsL_law (wsV RL 146 RX11 yX11_group wsX11_group) := goodIn_app (goodIn_of _ (by decide +kernel)) ggL_law_X11_group
set_option maxRecDepth 20000 in
theorem ggL_law_L_choice : GoodIn wsL_law wsL_choice := goodIn_ca (goodIn_ca (goodIn_ca (goodIn_r _ [435, 324, 436, 437, 438, 2, 439, 13, 189, 190, 440, 330, 331, 332, 333, 334, 335, 15, 14, 336, 337, 338, 200, 11, 12, 201, 202, 203, 204, 339, 340, 341, 342, 205, 235, 209, 208, 343, 344, 206, 207, 345, 346, 210, 211, 347, 348, 349, 350, 351, 352, 353, 354, 355, 356, 357, 358, 359, 360, 361, 362, 363, 364, 224, 225, 226, 227, 228, 229, 230, 231, 232, 233, 234, 236, 237, 238, 239, 1502, 1503, 1504, 1505, 1506, 1507, 1508, 1509, 1510, 1511, 1512, 1513, 1514, 1515, 1516, 1347, 1348, 1349, 1350, 1351, 1352, 1353] (by decide +kernel) (by decide +kernel)) (goodIn_sub (fun _ h => List.mem_append_left _ (List.mem_append_left _ (List.mem_append_left _ (List.mem_append_right _ h)))) (by decide +kernel))) (goodIn_sub (fun _ h => List.mem_append_right _ h) (by decide +kernel))) (goodIn_sub (fun _ h => List.mem_append_left _ (List.mem_append_right _ h)) (by decide +kernel))
set_option maxRecDepth 20000 in
theorem gL_law_L_choice : GoodIn wsL_law (va_wsS RL 147 yL_choice wsL_choice) := goodIn_app (goodIn_of _ (by decide +kernel)) ggL_law_L_choice
set_option maxRecDepth 20000 in
theorem ggL_law_X11_choice : GoodIn wsL_law wsX11_choice := goodIn_ca (goodIn_r _ [444, 369, 370, 371, 5, 372, 244, 373, 374, 375, 376, 179, 245, 246, 247, 377, 378, 379, 380, 381, 382, 383, 384, 117, 118, 120, 121, 122, 123, 124, 125, 126, 127, 129, 385, 386, 387, 388, 389, 390, 391, 392, 1354, 1355, 1356, 1357, 1358, 1359, 1360, 1361, 1362, 1363, 1364, 1365, 1366, 1367, 1368, 1369, 1370, 1371, 1372, 1373, 1374, 1375, 1376, 1377, 1378, 1379, 1380, 1381, 1382, 1383, 1384, 1385, 1386, 1387, 1388, 1389, 1390, 1391, 1392, 1393, 1394, 1395, 1396, 1397, 1398, 1399, 1400, 1401, 1402, 1403, 1404, 1405, 1406, 1407, 1408, 1409, 1410, 1411, 1412, 1413, 1414, 1415, 1416, 1417, 1418, 1419, 1420, 1421, 1422, 1423, 1424, 1425, 1426, 1427, 1428, 1429, 1430, 1431, 1432, 1433, 1434, 1435, 1436, 1437, 1438, 1439, 1440] (by decide +kernel) (by decide +kernel)) (goodIn_sub (fun _ h => List.mem_append_left _ (List.mem_append_left _ (List.mem_append_left _ (List.mem_append_right _ h)))) (by decide +kernel))
set_option maxRecDepth 20000 in
theorem gL_law_X11_choice : GoodIn wsL_law (wsV RL 149 RX11 yX11_choice wsX11_choice) := goodIn_app (goodIn_of _ (by decide +kernel)) ggL_law_X11_choice
set_option maxRecDepth 20000 in
theorem ggL_law_L_flat : GoodIn wsL_law wsL_flat := goodIn_ca (goodIn_ca (goodIn_ca (goodIn_r _ [447, 324, 448, 449, 450, 2, 451, 13, 189, 190, 452, 330, 331, 332, 333, 334, 335, 15, 14, 336, 337, 338, 200, 11, 12, 201, 202, 203, 204, 339, 340, 341, 342, 205, 235, 209, 208, 343, 344, 206, 207, 345, 346, 210, 211, 347, 348, 349, 350, 351, 352, 353, 354, 355, 356, 357, 358, 359, 360, 361, 362, 363, 364, 224, 225, 226, 227, 228, 229, 230, 231, 232, 233, 234, 236, 237, 238, 239, 1502, 1503, 1504, 1505, 1506, 1507, 1508, 1509, 1510, 1511, 1512, 1513, 1514, 1515, 1516, 1347, 1348, 1349, 1350, 1351, 1352, 1353] (by decide +kernel) (by decide +kernel)) (goodIn_sub (fun _ h => List.mem_append_left _ (List.mem_append_left _ (List.mem_append_left _ (List.mem_append_right _ h)))) (by decide +kernel))) (goodIn_sub (fun _ h => List.mem_append_right _ h) (by decide +kernel))) (goodIn_sub (fun _ h => List.mem_append_left _ (List.mem_append_right _ h)) (by decide +kernel))
set_option maxRecDepth 20000 in
theorem gL_law_L_flat : GoodIn wsL_law (va_wsS RL 150 yL_flat wsL_flat) := goodIn_app (goodIn_of _ (by decide +kernel)) ggL_law_L_flat
set_option maxRecDepth 20000 in
theorem ggL_law_X11_flat : GoodIn wsL_law wsX11_flat := goodIn_ca (goodIn_r _ [456, 405, 406, 407, 5, 408, 244, 373, 374, 375, 376, 179, 245, 246, 247, 377, 378, 379, 380, 381, 382, 383, 384, 117, 118, 120, 121, 122, 123, 124, 125, 126, 127, 129, 385, 386, 387, 388, 389, 390, 391, 392, 1354, 1355, 1356, 1357, 1358, 1359, 1360, 1361, 1362, 1363, 1364, 1365, 1366, 1367, 1368, 1369, 1370, 1371, 1372, 1373, 1374, 1375, 1376, 1377, 1378, 1379, 1380, 1381, 1382, 1383, 1384, 1385, 1386, 1387, 1388, 1389, 1390, 1391, 1392, 1393, 1394, 1395, 1396, 1397, 1398, 1399, 1400, 1401, 1402, 1403, 1404, 1405, 1406, 1407, 1408, 1409, 1410, 1411, 1412, 1413, 1414, 1415, 1416, 1417, 1418, 1419, 1420, 1421, 1422, 1423, 1424, 1425, 1426, 1427, 1428, 1429, 1430, 1431, 1432, 1433, 1434, 1435, 1436, 1437, 1438, 1439, 1440] (by decide +kernel) (by decide +kernel)) (goodIn_sub (fun _ h => List.mem_append_left _ (List.mem_append_left _ (List.mem_append_left _ (List.mem_append_right _ h)))) (by decide +kernel))
set_option maxRecDepth 20000 in
theorem gL_law_X11_flat : GoodIn wsL_law (wsV RL 152 RX11 yX11_flat wsX11_flat) := goodIn_app (goodIn_of _ (by decide +kernel)) ggL_law_X11_flat
set_option maxRecDepth 20000 in
theorem ggL_law_L_broken : GoodIn wsL_law wsL_broken := goodIn_ca (goodIn_ca (goodIn_ca (goodIn_r _ [459, 324, 460, 461, 462, 2, 463, 13, 189, 190, 464, 330, 331, 332, 333, 334, 335, 15, 14, 336, 337, 338, 200, 11, 12, 201, 202, 203, 204, 339, 340, 341, 342, 205, 235, 209, 208, 343, 344, 206, 207, 345, 346, 210, 211, 347, 348, 349, 350, 351, 352, 353, 354, 355, 356, 357, 358, 359, 360, 361, 362, 363, 364, 224, 225, 226, 227, 228, 229, 230, 231, 232, 233, 234, 236, 237, 238, 239, 1502, 1503, 1504, 1505, 1506, 1507, 1508, 1509, 1510, 1511, 1512, 1513, 1514, 1515, 1516, 1347, 1348, 1349, 1350, 1351, 1352, 1353] (by decide +kernel) (by decide +kernel)) (goodIn_sub (fun _ h => List.mem_append_left _ (List.mem_append_left _ (List.mem_append_left _ (List.mem_append_right _ h)))) (by decide +kernel))) (goodIn_sub (fun _ h => List.mem_append_right _ h) (by decide +kernel))) (goodIn_sub (fun _ h => List.mem_append_left _ (List.mem_append_right _ h)) (by decide +kernel))
set_option maxRecDepth 20000 in
theorem gL_law_L_broken : GoodIn wsL_law (va_wsS RL 153 yL_broken wsL_broken) := goodIn_app (goodIn_of _ (by decide +kernel)) ggL_law_L_broken
set_option maxRecDepth 20000 in
theorem ggL_law_X11_broken : GoodIn wsL_law wsX11_broken := goodIn_ca (goodIn_r _ [468, 369, 370, 371, 5, 372, 244, 373, 374, 375, 376, 179, 245, 246, 247, 377, 378, 379, 380, 381, 382, 383, 384, 117, 118, 120, 121, 122, 123, 124, 125, 126, 127, 129, 385, 386, 387, 388, 389, 390, 391, 392, 1354, 1355, 1356, 1357, 1358, 1359, 1360, 1361, 1362, 1363, 1364, 1365, 1366, 1367, 1368, 1369, 1370, 1371, 1372, 1373, 1374, 1375, 1376, 1377, 1378, 1379, 1380, 1381, 1382, 1383, 1384, 1385, 1386, 1387, 1388, 1389, 1390, 1391, 1392, 1393, 1394, 1395, 1396, 1397, 1398, 1399, 1400, 1401, 1402, 1403, 1404, 1405, 1406, 1407, 1408, 1409, 1410, 1411, 1412, 1413, 1414, 1415, 1416, 1417, 1418, 1419, 1420, 1421, 1422, 1423, 1424, 1425, 1426, 1427, 1428, 1429, 1430, 1431, 1432, 1433, 1434, 1435, 1436, 1437, 1438, 1439, 1440] (by decide +kernel) (by decide +kernel)) (goodIn_sub (fun _ h => List.mem_append_left _ (List.mem_append_left _ (List.mem_append_left _ (List.mem_append_right _ h)))) (by decide +kernel))
set_option maxRecDepth 20000 in
theorem gL_law_X11_broken : GoodIn wsL_law (wsV RL 155 RX11 yX11_broken wsX11_broken) := goodIn_app (goodIn_of _ (by decide +kernel)) ggL_law_X11_broken
set_option maxRecDepth 20000 in
theorem ggL_law_L_price : GoodIn wsL_law wsL_price := goodIn_ca (goodIn_ca (goodIn_ca (goodIn_ca (goodIn_r _ [471, 324, 472, 473, 474, 2, 475, 13, 189, 190, 476, 330, 331, 332, 333, 334, 335, 15, 14, 192, 193, 194, 195, 196, 336, 337, 338, 200, 11, 12, 201, 202, 203, 204, 339, 340, 341, 342, 205, 235, 209, 208, 343, 344, 206, 207, 345, 346, 210, 211, 347, 348, 349, 350, 351, 352, 353, 354, 355, 356, 357, 358, 359, 360, 361, 362, 363, 364, 224, 225, 226, 227, 228, 229, 230, 231, 232, 233, 234, 236, 237, 238, 239, 1502, 1503, 1504, 1505, 1506, 1507, 1508, 1509, 1510, 1511, 1512, 1513, 1514, 1515, 1516, 1347, 1348, 1349, 1350, 1351, 1352, 1353] (by decide +kernel) (by decide +kernel)) (goodIn_sub (fun _ h => List.mem_append_left _ (List.mem_append_left _ (List.mem_append_left _ (List.mem_append_right _ h)))) (by decide +kernel))) (goodIn_sub (fun _ h => List.mem_append_right _ h) (by decide +kernel))) (goodIn_sub (fun _ h => List.mem_append_left _ (List.mem_append_left _ (List.mem_append_right _ h))) (by decide +kernel))) (goodIn_sub (fun _ h => List.mem_append_left _ (List.mem_append_right _ h)) (by decide +kernel))
set_option maxRecDepth 20000 in
theorem gL_law_L_price : GoodIn wsL_law (va_wsS RL 156 yL_price wsL_price) := goodIn_app (goodIn_of _ (by decide +kernel)) ggL_law_L_price
set_option maxRecDepth 20000 in
theorem ggL_law_X11_price : GoodIn wsL_law wsX11_price := goodIn_ca (goodIn_r _ [480, 245, 246, 5, 247, 405, 406, 407, 408, 244, 373, 374, 375, 376, 179, 377, 378, 379, 380, 381, 382, 383, 384, 117, 118, 120, 121, 122, 123, 124, 125, 126, 127, 129, 385, 386, 387, 388, 389, 390, 391, 392, 1354, 1355, 1356, 1357, 1358, 1359, 1360, 1361, 1362, 1363, 1364, 1365, 1366, 1367, 1368, 1369, 1370, 1371, 1372, 1373, 1374, 1375, 1376, 1377, 1378, 1379, 1380, 1381, 1382, 1383, 1384, 1385, 1386, 1387, 1388, 1389, 1390, 1391, 1392, 1393, 1394, 1395, 1396, 1397, 1398, 1399, 1400, 1401, 1402, 1403, 1404, 1405, 1406, 1407, 1408, 1409, 1410, 1411, 1412, 1413, 1414, 1415, 1416, 1417, 1418, 1419, 1420, 1421, 1422, 1423, 1424, 1425, 1426, 1427, 1428, 1429, 1430, 1431, 1432, 1433, 1434, 1435, 1436, 1437, 1438, 1439, 1440] (by decide +kernel) (by decide +kernel)) (goodIn_sub (fun _ h => List.mem_append_left _ (List.mem_append_left _ (List.mem_append_left _ (List.mem_append_right _ h)))) (by decide +kernel))
set_option maxRecDepth 20000 in
theorem gL_law_X11_price : GoodIn wsL_law (wsV RL 158 RX11 yX11_price wsX11_price) := goodIn_app (goodIn_of _ (by decide +kernel)) ggL_law_X11_price
set_option maxRecDepth 20000 in
theorem ggL_law_L_keep : GoodIn wsL_law wsL_keep := goodIn_ca (goodIn_ca (goodIn_ca (goodIn_ca (goodIn_r _ [483, 324, 484, 485, 486, 2, 487, 13, 189, 190, 488, 330, 331, 332, 333, 334, 335, 15, 14, 192, 193, 194, 195, 196, 336, 337, 338, 200, 11, 12, 201, 202, 203, 204, 339, 340, 341, 342, 205, 235, 209, 208, 343, 344, 206, 207, 345, 346, 210, 211, 347, 348, 349, 350, 351, 352, 353, 354, 355, 356, 357, 358, 359, 360, 361, 362, 363, 364, 224, 225, 226, 227, 228, 229, 230, 231, 232, 233, 234, 236, 237, 238, 239, 1502, 1503, 1504, 1505, 1506, 1507, 1508, 1509, 1510, 1511, 1512, 1513, 1514, 1515, 1516, 1347, 1348, 1349, 1350, 1351, 1352, 1353] (by decide +kernel) (by decide +kernel)) (goodIn_sub (fun _ h => List.mem_append_left _ (List.mem_append_left _ (List.mem_append_left _ (List.mem_append_right _ h)))) (by decide +kernel))) (goodIn_sub (fun _ h => List.mem_append_right _ h) (by decide +kernel))) (goodIn_sub (fun _ h => List.mem_append_left _ (List.mem_append_left _ (List.mem_append_right _ h))) (by decide +kernel))) (goodIn_sub (fun _ h => List.mem_append_left _ (List.mem_append_right _ h)) (by decide +kernel))
set_option maxRecDepth 20000 in
theorem gL_law_L_keep : GoodIn wsL_law (va_wsS RL 159 yL_keep wsL_keep) := goodIn_app (goodIn_of _ (by decide +kernel)) ggL_law_L_keep
set_option maxRecDepth 20000 in
theorem ggL_law_X11_keep : GoodIn wsL_law wsX11_keep := goodIn_ca (goodIn_r _ [492, 245, 246, 5, 247, 405, 406, 407, 408, 244, 373, 374, 375, 376, 179, 377, 378, 379, 380, 381, 382, 383, 384, 117, 118, 120, 121, 122, 123, 124, 125, 126, 127, 129, 385, 386, 387, 388, 389, 390, 391, 392, 1354, 1355, 1356, 1357, 1358, 1359, 1360, 1361, 1362, 1363, 1364, 1365, 1366, 1367, 1368, 1369, 1370, 1371, 1372, 1373, 1374, 1375, 1376, 1377, 1378, 1379, 1380, 1381, 1382, 1383, 1384, 1385, 1386, 1387, 1388, 1389, 1390, 1391, 1392, 1393, 1394, 1395, 1396, 1397, 1398, 1399, 1400, 1401, 1402, 1403, 1404, 1405, 1406, 1407, 1408, 1409, 1410, 1411, 1412, 1413, 1414, 1415, 1416, 1417, 1418, 1419, 1420, 1421, 1422, 1423, 1424, 1425, 1426, 1427, 1428, 1429, 1430, 1431, 1432, 1433, 1434, 1435, 1436, 1437, 1438, 1439, 1440] (by decide +kernel) (by decide +kernel)) (goodIn_sub (fun _ h => List.mem_append_left _ (List.mem_append_left _ (List.mem_append_left _ (List.mem_append_right _ h)))) (by decide +kernel))
set_option maxRecDepth 20000 in
theorem gL_law_X11_keep : GoodIn wsL_law (wsV RL 161 RX11 yX11_keep wsX11_keep) := goodIn_app (goodIn_of _ (by decide +kernel)) ggL_law_X11_keep
set_option maxRecDepth 20000 in
theorem ggL_law_L_cell : GoodIn wsL_law wsL_cell := goodIn_ca (goodIn_ca (goodIn_ca (goodIn_ca (goodIn_r _ [495, 324, 496, 497, 498, 2, 499, 228, 229, 13, 189, 190, 500, 330, 331, 332, 333, 334, 335, 15, 14, 192, 193, 194, 195, 196, 336, 337, 338, 200, 11, 12, 201, 202, 203, 204, 339, 340, 341, 342, 205, 235, 209, 208, 343, 344, 206, 207, 345, 346, 210, 211, 347, 348, 349, 350, 351, 352, 353, 354, 355, 356, 357, 358, 359, 360, 361, 362, 363, 364, 224, 225, 226, 227, 230, 231, 232, 233, 234, 236, 237, 238, 239, 1502, 1503, 1504, 1505, 1506, 1507, 1508, 1509, 1510, 1511, 1512, 1513, 1514, 1515, 1516, 1347, 1348, 1349, 1350, 1351, 1352, 1353] (by decide +kernel) (by decide +kernel)) (goodIn_sub (fun _ h => List.mem_append_left _ (List.mem_append_left _ (List.mem_append_left _ (List.mem_append_right _ h)))) (by decide +kernel))) (goodIn_sub (fun _ h => List.mem_append_left _ (List.mem_append_right _ h)) (by decide +kernel))) (goodIn_sub (fun _ h => List.mem_append_right _ h) (by decide +kernel))) (goodIn_sub (fun _ h => List.mem_append_left _ (List.mem_append_left _ (List.mem_append_right _ h))) (by decide +kernel))
set_option maxRecDepth 20000 in
theorem gL_law_L_cell : GoodIn wsL_law (va_wsS RL 162 yL_cell wsL_cell) := goodIn_app (goodIn_of _ (by decide +kernel)) ggL_law_L_cell
set_option maxRecDepth 20000 in
theorem ggL_law_X11_cell : GoodIn wsL_law wsX11_cell := goodIn_ca (goodIn_r _ [504, 129, 244, 245, 246, 5, 247, 405, 406, 407, 408, 373, 374, 375, 376, 179, 377, 378, 379, 380, 381, 382, 383, 384, 117, 118, 120, 121, 122, 123, 124, 125, 126, 127, 385, 386, 387, 388, 389, 390, 391, 392, 1354, 1355, 1356, 1357, 1358, 1359, 1360, 1361, 1362, 1363, 1364, 1365, 1366, 1367, 1368, 1369, 1370, 1371, 1372, 1373, 1374, 1375, 1376, 1377, 1378, 1379, 1380, 1381, 1382, 1383, 1384, 1385, 1386, 1387, 1388, 1389, 1390, 1391, 1392, 1393, 1394, 1395, 1396, 1397, 1398, 1399, 1400, 1401, 1402, 1403, 1404, 1405, 1406, 1407, 1408, 1409, 1410, 1411, 1412, 1413, 1414, 1415, 1416, 1417, 1418, 1419, 1420, 1421, 1422, 1423, 1424, 1425, 1426, 1427, 1428, 1429, 1430, 1431, 1432, 1433, 1434, 1435, 1436, 1437, 1438, 1439, 1440] (by decide +kernel) (by decide +kernel)) (goodIn_sub (fun _ h => List.mem_append_left _ (List.mem_append_left _ (List.mem_append_left _ (List.mem_append_right _ h)))) (by decide +kernel))
set_option maxRecDepth 20000 in
theorem gL_law_X11_cell : GoodIn wsL_law (wsV RL 165 RX11 yX11_cell wsX11_cell) := goodIn_app (goodIn_of _ (by decide +kernel)) ggL_law_X11_cell
set_option maxRecDepth 20000 in
theorem ggL_law_X10_nodes : GoodIn wsL_law wsX10_nodes := goodIn_r _ [508, 15, 1347, 1348, 1349, 1350, 1351, 1352, 1353] (by decide +kernel) (by decide +kernel)
set_option maxRecDepth 20000 in
theorem gL_law_X10_nodes : GoodIn wsL_law (wsV RL 166 RX10 yX10_nodes wsX10_nodes) := goodIn_app (goodIn_of _ (by decide +kernel)) ggL_law_X10_nodes
set_option maxRecDepth 20000 in
theorem ggL_law_X11_nodes : GoodIn wsL_law wsX11_nodes := goodIn_r _ [512, 244, 179, 1354, 1355, 1356, 1357, 1358, 1359, 1360, 1361, 1362, 1363, 1364, 1365, 1366, 1367, 1368, 1369, 1370, 1371, 1372, 1373, 1374, 1375, 1376, 1377, 1378, 1379, 1380, 1381, 1382, 1383, 1384, 1385, 1386, 1387, 1388, 1389, 1390, 1391, 1392, 1393, 1394, 1395, 1396, 1397, 1398, 1399, 1400, 1401, 1402, 1403, 1404, 1405, 1406, 1407, 1408, 1409, 1410, 1411, 1412, 1413, 1414, 1415, 1416, 1417, 1418, 1419, 1420, 1421, 1422, 1423, 1424, 1425, 1426, 1427, 1428, 1429, 1430, 1431, 1432, 1433, 1434, 1435, 1436, 1437, 1438, 1439, 1440] (by decide +kernel) (by decide +kernel)
set_option maxRecDepth 20000 in
theorem gL_law_X11_nodes : GoodIn wsL_law (wsV RL 169 RX11 yX11_nodes wsX11_nodes) := goodIn_app (goodIn_of _ (by decide +kernel)) ggL_law_X11_nodes
set_option maxRecDepth 20000 in
theorem ggL_law_L_size : GoodIn wsL_law wsL_size := goodIn_ca (goodIn_ca (goodIn_r _ [515, 324, 516, 517, 518, 2, 519, 330, 331, 332, 333, 334, 335, 15, 14, 1502, 1503, 1504, 1505, 1506, 1507, 1508, 1509, 1510, 1511, 1512, 1513, 1514, 1515, 1516, 1347, 1348, 1349, 1350, 1351, 1352, 1353] (by decide +kernel) (by decide +kernel)) (goodIn_sub (fun _ h => List.mem_append_left _ (List.mem_append_left _ (List.mem_append_left _ (List.mem_append_right _ h)))) (by decide +kernel))) (goodIn_sub (fun _ h => List.mem_append_right _ h) (by decide +kernel))
set_option maxRecDepth 20000 in
theorem gL_law_L_size : GoodIn wsL_law (va_wsS RL 170 yL_size wsL_size) := goodIn_app (goodIn_of _ (by decide +kernel)) ggL_law_L_size
set_option maxRecDepth 20000 in
theorem ggL_law_X11_size : GoodIn wsL_law wsX11_size := goodIn_ca (goodIn_r _ [523, 244, 122, 373, 374, 375, 5, 376, 179, 245, 246, 247, 1354, 1355, 1356, 1357, 1358, 1359, 1360, 1361, 1362, 1363, 1364, 1365, 1366, 1367, 1368, 1369, 1370, 1371, 1372, 1373, 1374, 1375, 1376, 1377, 1378, 1379, 1380, 1381, 1382, 1383, 1384, 1385, 1386, 1387, 1388, 1389, 1390, 1391, 1392, 1393, 1394, 1395, 1396, 1397, 1398, 1399, 1400, 1401, 1402, 1403, 1404, 1405, 1406, 1407, 1408, 1409, 1410, 1411, 1412, 1413, 1414, 1415, 1416, 1417, 1418, 1419, 1420, 1421, 1422, 1423, 1424, 1425, 1426, 1427, 1428, 1429, 1430, 1431, 1432, 1433, 1434, 1435, 1436, 1437, 1438, 1439, 1440] (by decide +kernel) (by decide +kernel)) (goodIn_sub (fun _ h => List.mem_append_left _ (List.mem_append_left _ (List.mem_append_left _ (List.mem_append_right _ h)))) (by decide +kernel))
set_option maxRecDepth 20000 in
theorem gL_law_X11_size : GoodIn wsL_law (wsV RL 172 RX11 yX11_size wsX11_size) := goodIn_app (goodIn_of _ (by decide +kernel)) ggL_law_X11_size
set_option maxRecDepth 20000 in
theorem ggL_law_L_layouts : GoodIn wsL_law wsL_layouts := goodIn_ca (goodIn_ca (goodIn_r _ [526, 324, 527, 528, 529, 2, 530, 330, 331, 332, 333, 334, 335, 15, 14, 1502, 1503, 1504, 1505, 1506, 1507, 1508, 1509, 1510, 1511, 1512, 1513, 1514, 1515, 1516, 1347, 1348, 1349, 1350, 1351, 1352, 1353] (by decide +kernel) (by decide +kernel)) (goodIn_sub (fun _ h => List.mem_append_left _ (List.mem_append_left _ (List.mem_append_left _ (List.mem_append_right _ h)))) (by decide +kernel))) (goodIn_sub (fun _ h => List.mem_append_right _ h) (by decide +kernel))
set_option maxRecDepth 20000 in
theorem gL_law_L_layouts : GoodIn wsL_law (va_wsS RL 173 yL_layouts wsL_layouts) := goodIn_app (goodIn_of _ (by decide +kernel)) ggL_law_L_layouts
set_option maxRecDepth 20000 in
theorem ggL_law_X11_layouts : GoodIn wsL_law wsX11_layouts := goodIn_ca (goodIn_r _ [534, 244, 126, 373, 374, 375, 5, 376, 179, 245, 246, 247, 1354, 1355, 1356, 1357, 1358, 1359, 1360, 1361, 1362, 1363, 1364, 1365, 1366, 1367, 1368, 1369, 1370, 1371, 1372, 1373, 1374, 1375, 1376, 1377, 1378, 1379, 1380, 1381, 1382, 1383, 1384, 1385, 1386, 1387, 1388, 1389, 1390, 1391, 1392, 1393, 1394, 1395, 1396, 1397, 1398, 1399, 1400, 1401, 1402, 1403, 1404, 1405, 1406, 1407, 1408, 1409, 1410, 1411, 1412, 1413, 1414, 1415, 1416, 1417, 1418, 1419, 1420, 1421, 1422, 1423, 1424, 1425, 1426, 1427, 1428, 1429, 1430, 1431, 1432, 1433, 1434, 1435, 1436, 1437, 1438, 1439, 1440] (by decide +kernel) (by decide +kernel)) (goodIn_sub (fun _ h => List.mem_append_left _ (List.mem_append_left _ (List.mem_append_left _ (List.mem_append_right _ h)))) (by decide +kernel))
set_option maxRecDepth 20000 in
theorem gL_law_X11_layouts : GoodIn wsL_law (wsV RL 175 RX11 yX11_layouts wsX11_layouts) := goodIn_app (goodIn_of _ (by decide +kernel)) ggL_law_X11_layouts
set_option maxRecDepth 20000 in
theorem ggL_law_L_print : GoodIn wsL_law wsL_print := goodIn_ca (goodIn_ca (goodIn_ca (goodIn_ca (goodIn_r _ [537, 324, 538, 539, 540, 2, 541, 228, 229, 23, 27, 330, 331, 332, 333, 334, 335, 15, 14, 542, 543, 544, 545, 19, 192, 193, 194, 195, 196, 546, 547, 548, 18, 549, 550, 551, 552, 553, 554, 555, 556, 41, 557, 558, 101, 102, 103, 559, 237, 238, 190, 239, 234, 560, 561, 562, 563, 564, 565, 566, 22, 567, 568, 54, 569, 570, 571, 572, 573, 350, 574, 575, 576, 577, 578, 50, 579, 580, 581, 582, 49, 583, 584, 585, 59, 60, 62, 586, 587, 588, 53, 589, 590, 76, 69, 68, 70, 71, 72, 73, 74, 75, 591, 592, 593, 594, 595, 596, 46, 597, 598, 599, 600, 601, 602, 603, 604, 605, 606, 607, 608, 609, 610, 611, 612, 613, 614, 615, 616, 617, 618, 619, 620, 621, 622, 623, 624, 625, 626, 627, 628, 629, 630, 631, 632, 633, 634, 635, 636, 637, 638, 639, 640, 641, 642, 643, 644, 645, 646, 647, 648, 649, 650, 651, 652, 653, 654, 655, 656, 657, 658, 659, 660, 661, 662, 663, 664, 665, 80, 79, 40, 666, 667, 668, 669, 670, 671, 672, 673, 674, 675, 676, 677, 678, 679, 680, 681, 77, 682, 683, 684, 685, 686, 687, 688, 689, 690, 691, 692, 693, 694, 695, 696, 697, 698, 699, 700, 701, 702, 703, 349, 351, 704, 213, 214, 215, 216, 217, 218, 219, 705, 706, 707, 708, 709, 710, 711, 712, 713, 714, 715, 716, 717, 718, 719, 720, 721, 722, 723, 724, 725, 726, 727, 728, 729, 730, 731, 732, 733, 734, 735, 736, 737, 738, 739, 740, 741, 742, 743, 67, 744, 745, 746, 747, 748, 749, 750, 751, 752, 753, 754, 755, 756, 757, 758, 759, 760, 761, 78, 762, 763, 764, 765, 766, 767, 768, 769, 770, 771, 772, 773, 774, 775, 776, 777, 778, 779, 780, 781, 782, 6, 783, 784, 785, 786, 787, 788, 789, 790, 791, 792, 793, 794, 795, 796, 797, 798, 799, 800, 801, 802, 803, 804, 805, 806, 807, 808, 809, 810, 811, 812, 813, 814, 815, 816, 817, 818, 819, 820, 821, 822, 823, 824, 825, 826, 827, 828, 61, 829, 830, 831, 832, 833, 834, 835, 836, 837, 838, 839, 840, 841, 842, 843, 844, 845, 846, 847, 848, 849, 850, 851, 852, 853, 854, 855, 856, 857, 858, 859, 860, 861, 862, 863, 864, 865, 866, 867, 26, 868, 869, 870, 871, 872, 873, 874, 875, 876, 877, 87, 878, 879, 880, 34, 881, 882, 883, 884, 885, 886, 887, 95, 100, 888, 889, 890, 891, 92, 93, 94, 892, 893, 894, 895, 896, 897, 898, 899, 85, 900, 901, 902, 903, 904, 905, 906, 907, 908, 909, 910, 911, 912, 913, 914, 915, 916, 917, 918, 919, 920, 921, 922, 923, 924, 925, 926, 927, 928, 929, 930, 931, 932, 933, 934, 935, 936, 937, 938, 939, 940, 97, 98, 99, 941, 942, 943, 944, 945, 946, 947, 948, 949, 950, 35, 31, 951, 952, 953, 954, 955, 956, 957, 30, 958, 959, 960, 961, 962, 963, 964, 965, 966, 967, 968, 969, 970, 971, 972, 1347, 1348, 1349, 1350, 1351, 1352, 1353, 1445, 1446, 1447, 1448, 1449, 1450, 1441, 1442, 1443, 1444, 1502, 1503, 1504, 1505, 1506, 1507, 1508, 1509, 1510, 1511, 1512, 1513, 1514, 1515, 1516, 1484, 1485, 1486, 1487, 1488, 1489, 1490, 1491, 1492, 1493, 1494, 1495, 1496, 1497, 1498, 1499, 1500, 1501, 1478, 1479, 1480, 1481, 1482, 1483, 1517, 1518, 1519, 1520, 1521, 1522, 1523, 1524, 1525, 1526, 1451, 1452, 1453, 1454, 1455, 1456, 1457, 1463, 1464, 1465, 1466, 1467, 1468, 1469, 1470, 1471, 1472, 1473, 1474, 1475, 1476, 1477, 1458, 1459, 1460, 1461, 1462] (by decide +kernel) (by decide +kernel)) (goodIn_sub (fun _ h => List.mem_append_left _ (List.mem_append_left _ (List.mem_append_left _ (List.mem_append_right _ h)))) (by decide +kernel))) (goodIn_sub (fun _ h => List.mem_append_left _ (List.mem_append_right _ h)) (by decide +kernel))) (goodIn_sub (fun _ h => List.mem_append_right _ h) (by decide +kernel))) (goodIn_sub (fun _ h => List.mem_append_left _ (List.mem_append_left _ (List.mem_append_right _ h))) (by decide +kernel))
set_option maxRecDepth 20000 in
theorem gL_law_L_print : GoodIn wsL_law (va_wsS RL 176 yL_print wsL_print) := goodIn_app (goodIn_of _ (by decide +kernel)) ggL_law_L_print
set_option maxRecDepth 20000 in
theorem ggL_law_X11_print : GoodIn wsL_law wsX11_print := goodIn_ca (goodIn_r _ [976, 977, 978, 979, 5, 980, 244, 981, 982, 983, 373, 374, 375, 376, 179, 245, 246, 247, 984, 985, 986, 987, 153, 988, 163, 152, 989, 990, 991, 992, 993, 994, 154, 117, 131, 130, 150, 143, 144, 995, 996, 997, 998, 999, 140, 139, 133, 134, 1000, 1001, 1002, 1003, 1004, 1005, 1006, 1007, 121, 120, 118, 127, 1008, 1009, 1010, 1011, 132, 390, 391, 392, 1012, 1013, 1014, 1015, 138, 137, 135, 136, 1016, 1017, 1018, 1019, 1020, 1021, 1022, 1023, 162, 142, 145, 146, 147, 148, 149, 151, 1024, 1025, 1026, 1027, 1028, 1029, 1030, 1031, 1032, 1033, 1034, 1035, 119, 1036, 1037, 1038, 1039, 1040, 1041, 1042, 1043, 1044, 1045, 1046, 1047, 1048, 1049, 1050, 1051, 1052, 159, 160, 161, 1053, 1054, 1055, 1056, 1057, 1058, 1059, 1060, 1061, 1062, 1063, 1064, 1065, 1066, 1067, 1068, 1069, 157, 156, 1070, 1071, 1072, 1073, 1074, 1075, 1076, 1077, 1078, 1079, 1080, 1081, 1082, 1083, 1084, 1085, 1086, 1087, 1088, 168, 1089, 1090, 1091, 1092, 169, 1093, 1094, 1095, 1096, 1097, 1098, 1099, 1100, 1101, 1102, 1103, 1104, 1105, 1106, 1107, 1108, 1109, 1110, 1111, 1112, 173, 164, 1113, 1114, 1115, 1116, 165, 166, 167, 1117, 1118, 1119, 1120, 1121, 1122, 1123, 1124, 1125, 1126, 1127, 1128, 170, 171, 172, 1354, 1355, 1356, 1357, 1358, 1359, 1360, 1361, 1362, 1363, 1364, 1365, 1366, 1367, 1368, 1369, 1370, 1371, 1372, 1373, 1374, 1375, 1376, 1377, 1378, 1379, 1380, 1381, 1382, 1383, 1384, 1385, 1386, 1387, 1388, 1389, 1390, 1391, 1392, 1393, 1394, 1395, 1396, 1397, 1398, 1399, 1400, 1401, 1402, 1403, 1404, 1405, 1406, 1407, 1408, 1409, 1410, 1411, 1412, 1413, 1414, 1415, 1416, 1417, 1418, 1419, 1420, 1421, 1422, 1423, 1424, 1425, 1426, 1427, 1428, 1429, 1430, 1431, 1432, 1433, 1434, 1435, 1436, 1437, 1438, 1439, 1440] (by decide +kernel) (by decide +kernel)) (goodIn_sub (fun _ h => List.mem_append_left _ (List.mem_append_left _ (List.mem_append_left _ (List.mem_append_right _ h)))) (by decide +kernel))
set_option maxRecDepth 20000 in
theorem gL_law_X11_print : GoodIn wsL_law (wsV RL 179 RX11 yX11_print wsX11_print) := goodIn_app (goodIn_of _ (by decide +kernel)) ggL_law_X11_print
set_option maxRecDepth 20000 in
theorem ggL_law_L_printByAll : GoodIn wsL_law wsL_printByAll := goodIn_ca (goodIn_ca (goodIn_ca (goodIn_ca (goodIn_r _ [1131, 324, 1132, 1133, 1134, 2, 1135, 228, 229, 27, 330, 331, 332, 333, 334, 335, 15, 14, 542, 543, 544, 545, 19, 192, 193, 194, 195, 196, 546, 547, 548, 18, 549, 550, 551, 552, 553, 554, 555, 556, 41, 557, 558, 101, 102, 103, 559, 237, 238, 190, 239, 234, 560, 561, 562, 563, 1136, 1137, 1138, 26, 1139, 85, 87, 869, 870, 871, 872, 873, 874, 875, 876, 877, 878, 879, 880, 34, 881, 882, 883, 884, 885, 886, 887, 95, 100, 888, 889, 890, 891, 92, 93, 94, 892, 349, 350, 351, 893, 894, 895, 896, 897, 898, 899, 900, 901, 902, 903, 904, 905, 906, 907, 908, 598, 599, 600, 601, 602, 603, 909, 910, 911, 912, 848, 849, 850, 748, 749, 913, 914, 915, 916, 917, 918, 919, 920, 921, 922, 639, 640, 641, 923, 924, 925, 926, 927, 928, 929, 930, 931, 932, 933, 934, 935, 936, 213, 214, 215, 216, 217, 218, 219, 937, 938, 939, 940, 97, 98, 99, 941, 942, 943, 944, 945, 946, 1140, 961, 962, 963, 964, 965, 966, 967, 968, 969, 970, 971, 972, 715, 716, 717, 718, 1141, 1142, 1143, 1144, 947, 948, 949, 950, 35, 31, 951, 952, 953, 954, 955, 956, 957, 30, 958, 959, 960, 1502, 1503, 1504, 1505, 1506, 1507, 1508, 1509, 1510, 1511, 1512, 1513, 1514, 1515, 1516, 1347, 1348, 1349, 1350, 1351, 1352, 1353, 1441, 1442, 1443, 1444, 1451, 1452, 1453, 1454, 1455, 1456, 1457, 1463, 1464, 1465, 1466, 1467, 1468, 1469, 1470, 1471, 1472, 1473, 1474, 1475, 1476, 1477, 1458, 1459, 1460, 1461, 1462] (by decide +kernel) (by decide +kernel)) (goodIn_sub (fun _ h => List.mem_append_left _ (List.mem_append_left _ (List.mem_append_left _ (List.mem_append_right _ h)))) (by decide +kernel))) (goodIn_sub (fun _ h => List.mem_append_left _ (List.mem_append_right _ h)) (by decide +kernel))) (goodIn_sub (fun _ h => List.mem_append_right _ h) (by decide +kernel))) (goodIn_sub (fun _ h => List.mem_append_left _ (List.mem_append_left _ (List.mem_append_right _ h))) (by decide +kernel))
set_option maxRecDepth 20000 in
theorem gL_law_L_printByAll : GoodIn wsL_law (va_wsS RL 180 yL_printByAll wsL_printByAll) := goodIn_app (goodIn_of _ (by decide +kernel)) ggL_law_L_printByAll
set_option maxRecDepth 20000 in
theorem ggL_law_X11_printByAll : GoodIn wsL_law wsX11_printByAll := goodIn_ca (goodIn_r _ [1148, 126, 244, 988, 1107, 1091, 1094, 1089, 175, 163, 977, 978, 979, 5, 980, 981, 982, 983, 373, 374, 375, 376, 179, 245, 246, 247, 995, 996, 997, 998, 993, 999, 140, 139, 131, 133, 134, 1000, 1001, 1002, 1003, 1004, 1005, 1006, 1007, 117, 121, 120, 118, 127, 1008, 1009, 1010, 1011, 130, 132, 390, 391, 392, 1012, 1013, 1014, 1015, 138, 137, 135, 136, 1016, 1017, 1018, 1149, 1150, 1151, 1152, 1095, 1096, 1097, 1098, 1099, 1100, 1101, 1102, 1103, 1104, 1105, 1106, 1108, 1109, 1110, 1111, 1112, 173, 168, 164, 1113, 1114, 1115, 1116, 165, 1087, 166, 167, 119, 1117, 1118, 1119, 1120, 1044, 1045, 1046, 1047, 1121, 1122, 1123, 1124, 1125, 1126, 1127, 1128, 170, 1088, 171, 172, 1153, 1154, 1155, 1156, 1157, 1158, 1159, 1160, 1083, 1084, 1085, 1086, 1090, 1092, 169, 1093, 1354, 1355, 1356, 1357, 1358, 1359, 1360, 1361, 1362, 1363, 1364, 1365, 1366, 1367, 1368, 1369, 1370, 1371, 1372, 1373, 1374, 1375, 1376, 1377, 1378, 1379, 1380, 1381, 1382, 1383, 1384, 1385, 1386, 1387, 1388, 1389, 1390, 1391, 1392, 1393, 1394, 1395, 1396, 1397, 1398, 1399, 1400, 1401, 1402, 1403, 1404, 1405, 1406, 1407, 1408, 1409, 1410, 1411, 1412, 1413, 1414, 1415, 1416, 1417, 1418, 1419, 1420, 1421, 1422, 1423, 1424, 1425, 1426, 1427, 1428, 1429, 1430, 1431, 1432, 1433, 1434, 1435, 1436, 1437, 1438, 1439, 1440] (by decide +kernel) (by decide +kernel)) (goodIn_sub (fun _ h => List.mem_append_left _ (List.mem_append_left _ (List.mem_append_left _ (List.mem_append_right _ h)))) (by decide +kernel))
set_option maxRecDepth 20000 in
theorem gL_law_X11_printByAll : GoodIn wsL_law (wsV RL 182 RX11 yX11_printByAll wsX11_printByAll) := goodIn_app (goodIn_of _ (by decide +kernel)) ggL_law_X11_printByAll
set_option maxRecDepth 20000 in
theorem ggL_law_L_printGreedy : GoodIn wsL_law wsL_printGreedy := goodIn_ca (goodIn_ca (goodIn_ca (goodIn_ca (goodIn_r _ [1163, 324, 1164, 1165, 1166, 2, 1167, 228, 229, 27, 330, 331, 332, 333, 334, 335, 15, 14, 542, 543, 544, 545, 19, 192, 193, 194, 195, 196, 546, 547, 548, 18, 549, 550, 551, 552, 553, 554, 555, 556, 41, 557, 558, 101, 102, 103, 559, 237, 238, 190, 239, 234, 560, 561, 562, 563, 1168, 1169, 1170, 26, 1171, 87, 869, 870, 871, 872, 873, 874, 875, 876, 877, 878, 879, 880, 34, 881, 882, 883, 884, 885, 886, 887, 95, 100, 888, 889, 890, 891, 92, 93, 94, 892, 349, 350, 351, 893, 894, 895, 896, 897, 898, 899, 85, 900, 901, 902, 903, 904, 905, 906, 907, 908, 598, 599, 600, 601, 602, 603, 909, 910, 911, 912, 848, 849, 850, 748, 749, 913, 914, 915, 916, 917, 918, 919, 920, 921, 922, 639, 640, 641, 923, 924, 925, 926, 927, 928, 929, 930, 931, 932, 933, 934, 935, 936, 213, 214, 215, 216, 217, 218, 219, 937, 938, 939, 940, 97, 98, 99, 941, 942, 943, 944, 945, 946, 1172, 1173, 1174, 1175, 1176, 965, 966, 967, 1177, 969, 970, 971, 1178, 1179, 1180, 1181, 947, 948, 949, 950, 35, 31, 951, 952, 953, 954, 955, 956, 957, 30, 958, 959, 960, 961, 962, 963, 964, 968, 972, 715, 716, 717, 718, 1347, 1348, 1349, 1350, 1351, 1352, 1353, 1441, 1442, 1443, 1444, 1502, 1503, 1504, 1505, 1506, 1507, 1508, 1509, 1510, 1511, 1512, 1513, 1514, 1515, 1516, 1451, 1452, 1453, 1454, 1455, 1456, 1457, 1463, 1464, 1465, 1466, 1467, 1468, 1469, 1470, 1471, 1472, 1473, 1474, 1475, 1476, 1477, 1458, 1459, 1460, 1461, 1462] (by decide +kernel) (by decide +kernel)) (goodIn_sub (fun _ h => List.mem_append_left _ (List.mem_append_left _ (List.mem_append_left _ (List.mem_append_right _ h)))) (by decide +kernel))) (goodIn_sub (fun _ h => List.mem_append_left _ (List.mem_append_right _ h)) (by decide +kernel))) (goodIn_sub (fun _ h => List.mem_append_right _ h) (by decide +kernel))) (goodIn_sub (fun _ h => List.mem_append_left _ (List.mem_append_left _ (List.mem_append_right _ h))) (by decide +kernel))
set_option maxRecDepth 20000 in
theorem gL_law_L_printGreedy : GoodIn wsL_law (va_wsS RL 183 yL_printGreedy wsL_printGreedy) := goodIn_app (goodIn_of _ (by decide +kernel)) ggL_law_L_printGreedy
set_option maxRecDepth 20000 in
theorem ggL_law_X11_printGreedy : GoodIn wsL_law wsX11_printGreedy := goodIn_ca (goodIn_r _ [1185, 988, 163, 1091, 1107, 244, 977, 978, 979, 5, 980, 981, 982, 983, 373, 374, 375, 376, 179, 245, 246, 247, 995, 996, 997, 998, 993, 999, 140, 139, 131, 133, 134, 1000, 1001, 1002, 1003, 1004, 1005, 1006, 1007, 117, 121, 120, 118, 127, 1008, 1009, 1010, 1011, 130, 132, 390, 391, 392, 1012, 1013, 1014, 1015, 138, 137, 135, 136, 1016, 1017, 1018, 1095, 1096, 1097, 1098, 1099, 1100, 1101, 1102, 1103, 1104, 1105, 1106, 1094, 1089, 1108, 1109, 1110, 1111, 1112, 173, 168, 164, 1113, 1114, 1115, 1116, 165, 1087, 166, 167, 119, 1117, 1118, 1119, 1120, 1044, 1045, 1046, 1047, 1121, 1122, 1123, 1124, 1125, 1126, 1127, 1128, 170, 1088, 171, 172, 1186, 1187, 1188, 1189, 1083, 1084, 1085, 1086, 1090, 1092, 169, 1093, 1354, 1355, 1356, 1357, 1358, 1359, 1360, 1361, 1362, 1363, 1364, 1365, 1366, 1367, 1368, 1369, 1370, 1371, 1372, 1373, 1374, 1375, 1376, 1377, 1378, 1379, 1380, 1381, 1382, 1383, 1384, 1385, 1386, 1387, 1388, 1389, 1390, 1391, 1392, 1393, 1394, 1395, 1396, 1397, 1398, 1399, 1400, 1401, 1402, 1403, 1404, 1405, 1406, 1407, 1408, 1409, 1410, 1411, 1412, 1413, 1414, 1415, 1416, 1417, 1418, 1419, 1420, 1421, 1422, 1423, 1424, 1425, 1426, 1427, 1428, 1429, 1430, 1431, 1432, 1433, 1434, 1435, 1436, 1437, 1438, 1439, 1440] (by decide +kernel) (by decide +kernel)) (goodIn_sub (fun _ h => List.mem_append_left _ (List.mem_append_left _ (List.mem_append_left _ (List.mem_append_right _ h)))) (by decide +kernel))
set_option maxRecDepth 20000 in
theorem gL_law_X11_printGreedy : GoodIn wsL_law (wsV RL 185 RX11 yX11_printGreedy wsX11_printGreedy) := goodIn_app (goodIn_of _ (by decide +kernel)) ggL_law_X11_printGreedy
set_option maxRecDepth 20000 in
theorem ggL_law_X10_lines : GoodIn wsL_law wsX10_lines := goodIn_r _ [1193, 35, 1347, 1348, 1349, 1350, 1351, 1352, 1353, 1463, 1464, 1465, 1466, 1467, 1468, 1469, 1470, 1471, 1472, 1473, 1474, 1475, 1476, 1477] (by decide +kernel) (by decide +kernel)
set_option maxRecDepth 20000 in
theorem gL_law_X10_lines : GoodIn wsL_law (wsV RL 186 RX10 yX10_lines wsX10_lines) := goodIn_app (goodIn_of _ (by decide +kernel)) ggL_law_X10_lines
set_option maxRecDepth 20000 in
theorem ggL_law_X11_lines : GoodIn wsL_law wsX11_lines := goodIn_r _ [1197, 244, 1090, 1354, 1355, 1356, 1357, 1358, 1359, 1360, 1361, 1362, 1363, 1364, 1365, 1366, 1367, 1368, 1369, 1370, 1371, 1372, 1373, 1374, 1375, 1376, 1377, 1378, 1379, 1380, 1381, 1382, 1383, 1384, 1385, 1386, 1387, 1388, 1389, 1390, 1391, 1392, 1393, 1394, 1395, 1396, 1397, 1398, 1399, 1400, 1401, 1402, 1403, 1404, 1405, 1406, 1407, 1408, 1409, 1410, 1411, 1412, 1413, 1414, 1415, 1416, 1417, 1418, 1419, 1420, 1421, 1422, 1423, 1424, 1425, 1426, 1427, 1428, 1429, 1430, 1431, 1432, 1433, 1434, 1435, 1436, 1437, 1438, 1439, 1440] (by decide +kernel) (by decide +kernel)
set_option maxRecDepth 20000 in
theorem gL_law_X11_lines : GoodIn wsL_law (wsV RL 189 RX11 yX11_lines wsX11_lines) := goodIn_app (goodIn_of _ (by decide +kernel)) ggL_law_X11_lines
set_option maxRecDepth 20000 in
theorem ggL_law_L_length : GoodIn wsL_law wsL_length := goodIn_ca (goodIn_ca (goodIn_r _ [1200, 324, 1201, 1202, 1203, 2, 1204, 35, 1205, 1206, 1207, 1208, 334, 335, 1209, 969, 970, 34, 971, 882, 93, 1347, 1348, 1349, 1350, 1351, 1352, 1353, 1463, 1464, 1465, 1466, 1467, 1468, 1469, 1470, 1471, 1472, 1473, 1474, 1475, 1476, 1477] (by decide +kernel) (by decide +kernel)) (goodIn_sub (fun _ h => List.mem_append_left _ (List.mem_append_left _ (List.mem_append_left _ (List.mem_append_right _ h)))) (by decide +kernel))) (goodIn_sub (fun _ h => List.mem_append_right _ h) (by decide +kernel))
set_option maxRecDepth 20000 in
theorem gL_law_L_length : GoodIn wsL_law (va_wsS RL 190 yL_length wsL_length) := goodIn_app (goodIn_of _ (by decide +kernel)) ggL_law_L_length
set_option maxRecDepth 20000 in
theorem ggL_law_X11_length : GoodIn wsL_law wsX11_length := goodIn_ca (goodIn_r _ [1213, 1214, 1215, 1216, 5, 1217, 1090, 244, 245, 246, 247, 1218, 1219, 1220, 1221, 1087, 165, 166, 119, 167, 1354, 1355, 1356, 1357, 1358, 1359, 1360, 1361, 1362, 1363, 1364, 1365, 1366, 1367, 1368, 1369, 1370, 1371, 1372, 1373, 1374, 1375, 1376, 1377, 1378, 1379, 1380, 1381, 1382, 1383, 1384, 1385, 1386, 1387, 1388, 1389, 1390, 1391, 1392, 1393, 1394, 1395, 1396, 1397, 1398, 1399, 1400, 1401, 1402, 1403, 1404, 1405, 1406, 1407, 1408, 1409, 1410, 1411, 1412, 1413, 1414, 1415, 1416, 1417, 1418, 1419, 1420, 1421, 1422, 1423, 1424, 1425, 1426, 1427, 1428, 1429, 1430, 1431, 1432, 1433, 1434, 1435, 1436, 1437, 1438, 1439, 1440] (by decide +kernel) (by decide +kernel)) (goodIn_sub (fun _ h => List.mem_append_left _ (List.mem_append_left _ (List.mem_append_left _ (List.mem_append_right _ h)))) (by decide +kernel))
set_option maxRecDepth 20000 in
theorem gL_law_X11_length : GoodIn wsL_law (wsV RL 192 RX11 yX11_length wsX11_length) := goodIn_app (goodIn_of _ (by decide +kernel)) ggL_law_X11_length
set_option maxRecDepth 20000 in
theorem ggL_law_L_signAt : GoodIn wsL_law wsL_signAt := goodIn_ca (goodIn_ca (goodIn_r _ [1224, 324, 1225, 1226, 1227, 2, 1228, 35, 1229, 1230, 1231, 1232, 334, 335, 1205, 1206, 1207, 1208, 1209, 969, 970, 34, 971, 882, 93, 1233, 1234, 1235, 1236, 887, 97, 99, 98, 1237, 1238, 1239, 190, 1240, 201, 1241, 202, 1347, 1348, 1349, 1350, 1351, 1352, 1353, 1463, 1464, 1465, 1466, 1467, 1468, 1469, 1470, 1471, 1472, 1473, 1474, 1475, 1476, 1477, 1502, 1503, 1504, 1505, 1506, 1507, 1508, 1509, 1510, 1511, 1512, 1513, 1514, 1515, 1516] (by decide +kernel) (by decide +kernel)) (goodIn_sub (fun _ h => List.mem_append_left _ (List.mem_append_left _ (List.mem_append_left _ (List.mem_append_right _ h)))) (by decide +kernel))) (goodIn_sub (fun _ h => List.mem_append_right _ h) (by decide +kernel))
set_option maxRecDepth 20000 in
theorem gL_law_L_signAt : GoodIn wsL_law (va_wsS RL 193 yL_signAt wsL_signAt) := goodIn_app (goodIn_of _ (by decide +kernel)) ggL_law_L_signAt
set_option maxRecDepth 20000 in
theorem ggL_law_X11_signAt : GoodIn wsL_law wsX11_signAt := goodIn_ca (goodIn_r _ [1245, 167, 117, 118, 1246, 1247, 1248, 5, 1249, 1090, 244, 245, 246, 247, 1218, 1219, 1220, 1221, 1087, 165, 166, 119, 1250, 1251, 1252, 1253, 1354, 1355, 1356, 1357, 1358, 1359, 1360, 1361, 1362, 1363, 1364, 1365, 1366, 1367, 1368, 1369, 1370, 1371, 1372, 1373, 1374, 1375, 1376, 1377, 1378, 1379, 1380, 1381, 1382, 1383, 1384, 1385, 1386, 1387, 1388, 1389, 1390, 1391, 1392, 1393, 1394, 1395, 1396, 1397, 1398, 1399, 1400, 1401, 1402, 1403, 1404, 1405, 1406, 1407, 1408, 1409, 1410, 1411, 1412, 1413, 1414, 1415, 1416, 1417, 1418, 1419, 1420, 1421, 1422, 1423, 1424, 1425, 1426, 1427, 1428, 1429, 1430, 1431, 1432, 1433, 1434, 1435, 1436, 1437, 1438, 1439, 1440] (by decide +kernel) (by decide +kernel)) (goodIn_sub (fun _ h => List.mem_append_left _ (List.mem_append_left _ (List.mem_append_left _ (List.mem_append_right _ h)))) (by decide +kernel))
set_option maxRecDepth 20000 in
theorem gL_law_X11_signAt : GoodIn wsL_law (wsV RL 195 RX11 yX11_signAt wsX11_signAt) := goodIn_app (goodIn_of _ (by decide +kernel)) ggL_law_X11_signAt
set_option maxRecDepth 20000 in
theorem ggL_law_L_nodeAt : GoodIn wsL_law wsL_nodeAt := goodIn_ca (goodIn_ca (goodIn_r _ [1256, 324, 1257, 1258, 1259, 2, 1260, 35, 1229, 1230, 1231, 1232, 334, 335, 1205, 1206, 1207, 1208, 1209, 969, 970, 34, 971, 882, 93, 1233, 1234, 1235, 1236, 887, 97, 99, 98, 1347, 1348, 1349, 1350, 1351, 1352, 1353, 1502, 1503, 1504, 1505, 1506, 1507, 1508, 1509, 1510, 1511, 1512, 1513, 1514, 1515, 1516, 1463, 1464, 1465, 1466, 1467, 1468, 1469, 1470, 1471, 1472, 1473, 1474, 1475, 1476, 1477] (by decide +kernel) (by decide +kernel)) (goodIn_sub (fun _ h => List.mem_append_left _ (List.mem_append_left _ (List.mem_append_left _ (List.mem_append_right _ h)))) (by decide +kernel))) (goodIn_sub (fun _ h => List.mem_append_right _ h) (by decide +kernel))
set_option maxRecDepth 20000 in
theorem gL_law_L_nodeAt : GoodIn wsL_law (va_wsS RL 196 yL_nodeAt wsL_nodeAt) := goodIn_app (goodIn_of _ (by decide +kernel)) ggL_law_L_nodeAt
set_option maxRecDepth 20000 in
theorem ggL_law_X11_nodeAt : GoodIn wsL_law wsX11_nodeAt := goodIn_ca (goodIn_r _ [1264, 167, 1246, 1247, 1248, 5, 1249, 1090, 244, 245, 246, 247, 1218, 1219, 1220, 1221, 1087, 165, 166, 119, 1250, 1251, 1252, 1253, 1354, 1355, 1356, 1357, 1358, 1359, 1360, 1361, 1362, 1363, 1364, 1365, 1366, 1367, 1368, 1369, 1370, 1371, 1372, 1373, 1374, 1375, 1376, 1377, 1378, 1379, 1380, 1381, 1382, 1383, 1384, 1385, 1386, 1387, 1388, 1389, 1390, 1391, 1392, 1393, 1394, 1395, 1396, 1397, 1398, 1399, 1400, 1401, 1402, 1403, 1404, 1405, 1406, 1407, 1408, 1409, 1410, 1411, 1412, 1413, 1414, 1415, 1416, 1417, 1418, 1419, 1420, 1421, 1422, 1423, 1424, 1425, 1426, 1427, 1428, 1429, 1430, 1431, 1432, 1433, 1434, 1435, 1436, 1437, 1438, 1439, 1440] (by decide +kernel) (by decide +kernel)) (goodIn_sub (fun _ h => List.mem_append_left _ (List.mem_append_left _ (List.mem_append_left _ (List.mem_append_right _ h)))) (by decide +kernel))
set_option maxRecDepth 20000 in
theorem gL_law_X11_nodeAt : GoodIn wsL_law (wsV RL 198 RX11 yX11_nodeAt wsX11_nodeAt) := goodIn_app (goodIn_of _ (by decide +kernel)) ggL_law_X11_nodeAt
set_option maxRecDepth 20000 in
theorem ggL_law_L_placeOf : GoodIn wsL_law wsL_placeOf := goodIn_ca (goodIn_ca (goodIn_r _ [1267, 324, 1268, 1269, 1270, 2, 1271, 35, 330, 331, 332, 333, 334, 335, 15, 14, 1272, 1273, 1274, 34, 1275, 95, 1347, 1348, 1349, 1350, 1351, 1352, 1353, 1502, 1503, 1504, 1505, 1506, 1507, 1508, 1509, 1510, 1511, 1512, 1513, 1514, 1515, 1516, 1463, 1464, 1465, 1466, 1467, 1468, 1469, 1470, 1471, 1472, 1473, 1474, 1475, 1476, 1477] (by decide +kernel) (by decide +kernel)) (goodIn_sub (fun _ h => List.mem_append_left _ (List.mem_append_left _ (List.mem_append_left _ (List.mem_append_right _ h)))) (by decide +kernel))) (goodIn_sub (fun _ h => List.mem_append_right _ h) (by decide +kernel))
set_option maxRecDepth 20000 in
theorem gL_law_L_placeOf : GoodIn wsL_law (va_wsS RL 199 yL_placeOf wsL_placeOf) := goodIn_app (goodIn_of _ (by decide +kernel)) ggL_law_L_placeOf
set_option maxRecDepth 20000 in
theorem ggL_law_X11_placeOf : GoodIn wsL_law wsX11_placeOf := goodIn_ca (goodIn_r _ [1279, 244, 1090, 168, 373, 374, 375, 5, 376, 179, 245, 246, 247, 1354, 1355, 1356, 1357, 1358, 1359, 1360, 1361, 1362, 1363, 1364, 1365, 1366, 1367, 1368, 1369, 1370, 1371, 1372, 1373, 1374, 1375, 1376, 1377, 1378, 1379, 1380, 1381, 1382, 1383, 1384, 1385, 1386, 1387, 1388, 1389, 1390, 1391, 1392, 1393, 1394, 1395, 1396, 1397, 1398, 1399, 1400, 1401, 1402, 1403, 1404, 1405, 1406, 1407, 1408, 1409, 1410, 1411, 1412, 1413, 1414, 1415, 1416, 1417, 1418, 1419, 1420, 1421, 1422, 1423, 1424, 1425, 1426, 1427, 1428, 1429, 1430, 1431, 1432, 1433, 1434, 1435, 1436, 1437, 1438, 1439, 1440] (by decide +kernel) (by decide +kernel)) (goodIn_sub (fun _ h => List.mem_append_left _ (List.mem_append_left _ (List.mem_append_left _ (List.mem_append_right _ h)))) (by decide +kernel))
set_option maxRecDepth 20000 in
theorem gL_law_X11_placeOf : GoodIn wsL_law (wsV RL 201 RX11 yX11_placeOf wsX11_placeOf) := goodIn_app (goodIn_of _ (by decide +kernel)) ggL_law_X11_placeOf
set_option maxRecDepth 20000 in
theorem ggL_law_X10_decisions : GoodIn wsL_law wsX10_decisions := goodIn_r _ [1283, 35, 1347, 1348, 1349, 1350, 1351, 1352, 1353, 1463, 1464, 1465, 1466, 1467, 1468, 1469, 1470, 1471, 1472, 1473, 1474, 1475, 1476, 1477] (by decide +kernel) (by decide +kernel)
set_option maxRecDepth 20000 in
theorem gL_law_X10_decisions : GoodIn wsL_law (wsV RL 202 RX10 yX10_decisions wsX10_decisions) := goodIn_app (goodIn_of _ (by decide +kernel)) ggL_law_X10_decisions
set_option maxRecDepth 20000 in
theorem ggL_law_X11_decisions : GoodIn wsL_law wsX11_decisions := goodIn_r _ [1287, 244, 1092, 1354, 1355, 1356, 1357, 1358, 1359, 1360, 1361, 1362, 1363, 1364, 1365, 1366, 1367, 1368, 1369, 1370, 1371, 1372, 1373, 1374, 1375, 1376, 1377, 1378, 1379, 1380, 1381, 1382, 1383, 1384, 1385, 1386, 1387, 1388, 1389, 1390, 1391, 1392, 1393, 1394, 1395, 1396, 1397, 1398, 1399, 1400, 1401, 1402, 1403, 1404, 1405, 1406, 1407, 1408, 1409, 1410, 1411, 1412, 1413, 1414, 1415, 1416, 1417, 1418, 1419, 1420, 1421, 1422, 1423, 1424, 1425, 1426, 1427, 1428, 1429, 1430, 1431, 1432, 1433, 1434, 1435, 1436, 1437, 1438, 1439, 1440] (by decide +kernel) (by decide +kernel)
set_option maxRecDepth 20000 in
theorem gL_law_X11_decisions : GoodIn wsL_law (wsV RL 205 RX11 yX11_decisions wsX11_decisions) := goodIn_app (goodIn_of _ (by decide +kernel)) ggL_law_X11_decisions
set_option maxRecDepth 20000 in
theorem ggL_law_L_wayAt : GoodIn wsL_law wsL_wayAt := goodIn_ca (goodIn_ca (goodIn_r _ [1290, 324, 1291, 1292, 1293, 2, 1294, 334, 335, 35, 1295, 848, 849, 850, 748, 749, 1347, 1348, 1349, 1350, 1351, 1352, 1353, 1463, 1464, 1465, 1466, 1467, 1468, 1469, 1470, 1471, 1472, 1473, 1474, 1475, 1476, 1477] (by decide +kernel) (by decide +kernel)) (goodIn_sub (fun _ h => List.mem_append_left _ (List.mem_append_left _ (List.mem_append_left _ (List.mem_append_right _ h)))) (by decide +kernel))) (goodIn_sub (fun _ h => List.mem_append_right _ h) (by decide +kernel))
set_option maxRecDepth 20000 in
theorem gL_law_L_wayAt : GoodIn wsL_law (va_wsS RL 206 yL_wayAt wsL_wayAt) := goodIn_app (goodIn_of _ (by decide +kernel)) ggL_law_L_wayAt
set_option maxRecDepth 20000 in
theorem ggL_law_X11_wayAt : GoodIn wsL_law wsX11_wayAt := goodIn_ca (goodIn_r _ [1299, 1092, 244, 169, 245, 246, 5, 247, 1354, 1355, 1356, 1357, 1358, 1359, 1360, 1361, 1362, 1363, 1364, 1365, 1366, 1367, 1368, 1369, 1370, 1371, 1372, 1373, 1374, 1375, 1376, 1377, 1378, 1379, 1380, 1381, 1382, 1383, 1384, 1385, 1386, 1387, 1388, 1389, 1390, 1391, 1392, 1393, 1394, 1395, 1396, 1397, 1398, 1399, 1400, 1401, 1402, 1403, 1404, 1405, 1406, 1407, 1408, 1409, 1410, 1411, 1412, 1413, 1414, 1415, 1416, 1417, 1418, 1419, 1420, 1421, 1422, 1423, 1424, 1425, 1426, 1427, 1428, 1429, 1430, 1431, 1432, 1433, 1434, 1435, 1436, 1437, 1438, 1439, 1440] (by decide +kernel) (by decide +kernel)) (goodIn_sub (fun _ h => List.mem_append_left _ (List.mem_append_left _ (List.mem_append_left _ (List.mem_append_right _ h)))) (by decide +kernel))
set_option maxRecDepth 20000 in
theorem gL_law_X11_wayAt : GoodIn wsL_law (wsV RL 208 RX11 yX11_wayAt wsX11_wayAt) := goodIn_app (goodIn_of _ (by decide +kernel)) ggL_law_X11_wayAt
set_option maxRecDepth 20000 in
theorem ggL_law_L_breakPages : GoodIn wsL_law wsL_breakPages := goodIn_ca (goodIn_ca (goodIn_ca (goodIn_r _ [1302, 184, 1303, 1304, 1305, 2, 1306, 228, 229, 35, 31, 192, 193, 194, 195, 196, 1307, 1308, 1309, 30, 1310, 1311, 756, 350, 757, 109, 110, 959, 1312, 1313, 1314, 1315, 111, 1316, 1317, 1318, 34, 1319, 882, 94, 1320, 1321, 1322, 1323, 108, 1347, 1348, 1349, 1350, 1351, 1352, 1353, 1463, 1464, 1465, 1466, 1467, 1468, 1469, 1470, 1471, 1472, 1473, 1474, 1475, 1476, 1477, 1458, 1459, 1460, 1461, 1462] (by decide +kernel) (by decide +kernel)) (goodIn_sub (fun _ h => List.mem_append_left _ (List.mem_append_left _ (List.mem_append_left _ (List.mem_append_right _ h)))) (by decide +kernel))) (goodIn_sub (fun _ h => List.mem_append_left _ (List.mem_append_right _ h)) (by decide +kernel))) (goodIn_sub (fun _ h => List.mem_append_left _ (List.mem_append_left _ (List.mem_append_right _ h))) (by decide +kernel))
set_option maxRecDepth 20000 in
theorem gL_law_L_breakPages : GoodIn wsL_law (va_wsS RL 209 yL_breakPages wsL_breakPages) := goodIn_app (goodIn_of _ (by decide +kernel)) ggL_law_L_breakPages
set_option maxRecDepth 20000 in
theorem ggL_law_X11_breakPages : GoodIn wsL_law wsX11_breakPages := goodIn_ca (goodIn_r _ [1327, 1090, 244, 176, 177, 178, 174, 1093, 245, 246, 5, 247, 1328, 1329, 1330, 1331, 1088, 170, 171, 172, 1354, 1355, 1356, 1357, 1358, 1359, 1360, 1361, 1362, 1363, 1364, 1365, 1366, 1367, 1368, 1369, 1370, 1371, 1372, 1373, 1374, 1375, 1376, 1377, 1378, 1379, 1380, 1381, 1382, 1383, 1384, 1385, 1386, 1387, 1388, 1389, 1390, 1391, 1392, 1393, 1394, 1395, 1396, 1397, 1398, 1399, 1400, 1401, 1402, 1403, 1404, 1405, 1406, 1407, 1408, 1409, 1410, 1411, 1412, 1413, 1414, 1415, 1416, 1417, 1418, 1419, 1420, 1421, 1422, 1423, 1424, 1425, 1426, 1427, 1428, 1429, 1430, 1431, 1432, 1433, 1434, 1435, 1436, 1437, 1438, 1439, 1440] (by decide +kernel) (by decide +kernel)) (goodIn_sub (fun _ h => List.mem_append_left _ (List.mem_append_left _ (List.mem_append_left _ (List.mem_append_right _ h)))) (by decide +kernel))
set_option maxRecDepth 20000 in
theorem gL_law_X11_breakPages : GoodIn wsL_law (wsV RL 211 RX11 yX11_breakPages wsX11_breakPages) := goodIn_app (goodIn_of _ (by decide +kernel)) ggL_law_X11_breakPages
set_option maxRecDepth 20000 in
theorem ggL_law_L_pageOf : GoodIn wsL_law wsL_pageOf := goodIn_ca (goodIn_ca (goodIn_ca (goodIn_r _ [1334, 324, 1335, 1336, 1337, 2, 1338, 228, 229, 31, 1205, 1206, 1207, 1208, 334, 335, 35, 1339, 1340, 1341, 30, 1342, 108, 1347, 1348, 1349, 1350, 1351, 1352, 1353, 1458, 1459, 1460, 1461, 1462, 1463, 1464, 1465, 1466, 1467, 1468, 1469, 1470, 1471, 1472, 1473, 1474, 1475, 1476, 1477] (by decide +kernel) (by decide +kernel)) (goodIn_sub (fun _ h => List.mem_append_left _ (List.mem_append_left _ (List.mem_append_left _ (List.mem_append_right _ h)))) (by decide +kernel))) (goodIn_sub (fun _ h => List.mem_append_left _ (List.mem_append_right _ h)) (by decide +kernel))) (goodIn_sub (fun _ h => List.mem_append_right _ h) (by decide +kernel))
set_option maxRecDepth 20000 in
theorem gL_law_L_pageOf : GoodIn wsL_law (va_wsS RL 212 yL_pageOf wsL_pageOf) := goodIn_app (goodIn_of _ (by decide +kernel)) ggL_law_L_pageOf
set_option maxRecDepth 20000 in
theorem ggL_law_X11_pageOf : GoodIn wsL_law wsX11_pageOf := goodIn_ca (goodIn_r _ [1346, 1090, 1093, 244, 174, 245, 246, 5, 247, 1354, 1355, 1356, 1357, 1358, 1359, 1360, 1361, 1362, 1363, 1364, 1365, 1366, 1367, 1368, 1369, 1370, 1371, 1372, 1373, 1374, 1375, 1376, 1377, 1378, 1379, 1380, 1381, 1382, 1383, 1384, 1385, 1386, 1387, 1388, 1389, 1390, 1391, 1392, 1393, 1394, 1395, 1396, 1397, 1398, 1399, 1400, 1401, 1402, 1403, 1404, 1405, 1406, 1407, 1408, 1409, 1410, 1411, 1412, 1413, 1414, 1415, 1416, 1417, 1418, 1419, 1420, 1421, 1422, 1423, 1424, 1425, 1426, 1427, 1428, 1429, 1430, 1431, 1432, 1433, 1434, 1435, 1436, 1437, 1438, 1439, 1440] (by decide +kernel) (by decide +kernel)) (goodIn_sub (fun _ h => List.mem_append_left _ (List.mem_append_left _ (List.mem_append_left _ (List.mem_append_right _ h)))) (by decide +kernel))
set_option maxRecDepth 20000 in
theorem gL_law_X11_pageOf : GoodIn wsL_law (wsV RL 214 RX11 yX11_pageOf wsX11_pageOf) := goodIn_app (goodIn_of _ (by decide +kernel)) ggL_law_X11_pageOf
abbrev vwCl : List vw_C := [(RJ0, TJ0, 4), (RJ4, TJ4, 4), (RJx00060, TJx00060, 6), (RX1, TX1, 7), (RX2, TX2, 6), (RX4, TX4, 15), (RX5, TX5, 5), (RX6, TX6, 6), (RX7, TX7, 15), (RX8, TX8, 18), (RX9, TX9, 4), (RX10, TX10, 7), (RX11, TX11, 87)]
