def RX0 : String := "ColumnHouse$Card"
def TX0 : u_T := fun k => match k with
  | 0 => ("ColumnHouse$Thing", "kind", "I", true)
  | _ => ("ColumnHouse$Card", "tag", "I", true)
def tyX0 : Nat → FieldType := fun k => match k with
  | 0 => .int
  | _ => .int
theorem nmX0 : ∀ a, a < 2 → ∀ b, b < 2 → a ≠ b → (TX0 a).2.1 ≠ (TX0 b).2.1 := by decide +kernel
theorem tyX0_ok : ∀ k, k < 2 → parseFieldDescriptor (TX0 k).2.2.1 = some (tyX0 k) := by decide +kernel
abbrev cX0_init : ByteArray := prog_2_method_1_code
def yX0_init : MethodName := ⟨RX0, "<init>", "(II)V"⟩
abbrev cX0_rank : ByteArray := prog_2_method_2_code
def yX0_rank : MethodName := ⟨RX0, "rank", "()I"⟩
def RX1 : String := "ColumnHouse$Cell"
def TX1 : u_T := fun k => match k with
  | 0 => ("ColumnHouse$Cell", "sort", "I", false)
  | 1 => ("ColumnHouse$Cell", "whole", "J", false)
  | 2 => ("ColumnHouse$Cell", "point", "D", false)
  | _ => ("ColumnHouse$Cell", "thing", "LColumnHouse$Thing;", false)
def tyX1 : Nat → FieldType := fun k => match k with
  | 0 => .int
  | 1 => .long
  | 2 => .double
  | _ => .object "ColumnHouse$Thing"
theorem nmX1 : ∀ a, a < 4 → ∀ b, b < 4 → a ≠ b → (TX1 a).2.1 ≠ (TX1 b).2.1 := by decide +kernel
theorem tyX1_ok : ∀ k, k < 4 → parseFieldDescriptor (TX1 k).2.2.1 = some (tyX1 k) := by decide +kernel
abbrev cX1_init : ByteArray := prog_3_method_1_code
def yX1_init : MethodName := ⟨RX1, "<init>", "()V"⟩
abbrev cX1_holdWhole : ByteArray := prog_3_method_2_code
def yX1_holdWhole : MethodName := ⟨RX1, "holdWhole", "(IJ)V"⟩
abbrev cX1_holdPoint : ByteArray := prog_3_method_3_code
def yX1_holdPoint : MethodName := ⟨RX1, "holdPoint", "(ID)V"⟩
abbrev cX1_holdThing : ByteArray := prog_3_method_4_code
def yX1_holdThing : MethodName := ⟨RX1, "holdThing", "(LColumnHouse$Thing;)V"⟩
abbrev cX1_holdTold : ByteArray := prog_3_method_5_code
def yX1_holdTold : MethodName := ⟨RX1, "holdTold", "(III)V"⟩
abbrev cX1_isValue : ByteArray := prog_3_method_6_code
def yX1_isValue : MethodName := ⟨RX1, "isValue", "()Z"⟩
abbrev cX1_asPoint : ByteArray := prog_3_method_7_code
def yX1_asPoint : MethodName := ⟨RX1, "asPoint", "(I)D"⟩
abbrev cX1_isLike : ByteArray := prog_3_method_8_code
def yX1_isLike : MethodName := ⟨RX1, "isLike", "(LColumnHouse$Cell;)Z"⟩
abbrev cX1_isLess : ByteArray := prog_3_method_9_code
def yX1_isLess : MethodName := ⟨RX1, "isLess", "(LColumnHouse$Cell;)Z"⟩
def RX2 : String := "ColumnHouse$PlainRow"
def TX2 : u_T := fun k => match k with
  | _ => ("", "", "", false)
def tyX2 : Nat → FieldType := fun k => match k with
  | _ => .int
theorem nmX2 : ∀ a, a < 0 → ∀ b, b < 0 → a ≠ b → (TX2 a).2.1 ≠ (TX2 b).2.1 := by decide +kernel
theorem tyX2_ok : ∀ k, k < 0 → parseFieldDescriptor (TX2 k).2.2.1 = some (tyX2 k) := by decide +kernel
abbrev cX2_init : ByteArray := prog_4_method_1_code
def yX2_init : MethodName := ⟨RX2, "<init>", "(II)V"⟩
abbrev cX2_isPlain : ByteArray := prog_4_method_2_code
def yX2_isPlain : MethodName := ⟨RX2, "isPlain", "()Z"⟩
abbrev cX2_accepts : ByteArray := prog_4_method_3_code
def yX2_accepts : MethodName := ⟨RX2, "accepts", "(LColumnHouse$Cell;)Z"⟩
def RX3 : String := "ColumnHouse$PointRow"
def TX3 : u_T := fun k => match k with
  | 0 => ("ColumnHouse$Row", "size", "I", true)
  | 1 => ("ColumnHouse$Thing", "kind", "I", true)
  | _ => ("ColumnHouse$PointRow", "points", "[D", true)
def tyX3 : Nat → FieldType := fun k => match k with
  | 0 => .int
  | 1 => .int
  | _ => .array .double
theorem nmX3 : ∀ a, a < 3 → ∀ b, b < 3 → a ≠ b → (TX3 a).2.1 ≠ (TX3 b).2.1 := by decide +kernel
theorem tyX3_ok : ∀ k, k < 3 → parseFieldDescriptor (TX3 k).2.2.1 = some (tyX3 k) := by decide +kernel
abbrev cX3_init : ByteArray := prog_5_method_1_code
def yX3_init : MethodName := ⟨RX3, "<init>", "(II)V"⟩
abbrev cX3_read : ByteArray := prog_5_method_2_code
def yX3_read : MethodName := ⟨RX3, "read", "(ILColumnHouse$Cell;)V"⟩
abbrev cX3_write : ByteArray := prog_5_method_3_code
def yX3_write : MethodName := ⟨RX3, "write", "(ILColumnHouse$Cell;)V"⟩
def RX4 : String := "ColumnHouse$Row"
def TX4 : u_T := fun k => match k with
  | _ => ("", "", "", false)
def tyX4 : Nat → FieldType := fun k => match k with
  | _ => .int
theorem nmX4 : ∀ a, a < 0 → ∀ b, b < 0 → a ≠ b → (TX4 a).2.1 ≠ (TX4 b).2.1 := by decide +kernel
theorem tyX4_ok : ∀ k, k < 0 → parseFieldDescriptor (TX4 k).2.2.1 = some (tyX4 k) := by decide +kernel
abbrev cX4_init : ByteArray := prog_6_method_1_code
def yX4_init : MethodName := ⟨RX4, "<init>", "(II)V"⟩
abbrev cX4_rank : ByteArray := prog_6_method_2_code
def yX4_rank : MethodName := ⟨RX4, "rank", "()I"⟩
abbrev cX4_has : ByteArray := prog_6_method_3_code
def yX4_has : MethodName := ⟨RX4, "has", "(I)Z"⟩
def RX5 : String := "ColumnHouse$Thing"
def TX5 : u_T := fun k => match k with
  | _ => ("", "", "", false)
def tyX5 : Nat → FieldType := fun k => match k with
  | _ => .int
theorem nmX5 : ∀ a, a < 0 → ∀ b, b < 0 → a ≠ b → (TX5 a).2.1 ≠ (TX5 b).2.1 := by decide +kernel
theorem tyX5_ok : ∀ k, k < 0 → parseFieldDescriptor (TX5 k).2.2.1 = some (tyX5 k) := by decide +kernel
abbrev cX5_init : ByteArray := prog_7_method_1_code
def yX5_init : MethodName := ⟨RX5, "<init>", "(I)V"⟩
def RX6 : String := "ColumnHouse$ThingRow"
def TX6 : u_T := fun k => match k with
  | 0 => ("ColumnHouse$Row", "size", "I", true)
  | 1 => ("ColumnHouse$Thing", "kind", "I", true)
  | _ => ("ColumnHouse$ThingRow", "things", "[LColumnHouse$Thing;", true)
def tyX6 : Nat → FieldType := fun k => match k with
  | 0 => .int
  | 1 => .int
  | _ => .array (.object "ColumnHouse$Thing")
theorem nmX6 : ∀ a, a < 3 → ∀ b, b < 3 → a ≠ b → (TX6 a).2.1 ≠ (TX6 b).2.1 := by decide +kernel
theorem tyX6_ok : ∀ k, k < 3 → parseFieldDescriptor (TX6 k).2.2.1 = some (tyX6 k) := by decide +kernel
abbrev cX6_init : ByteArray := prog_8_method_1_code
def yX6_init : MethodName := ⟨RX6, "<init>", "(II)V"⟩
abbrev cX6_isPlain : ByteArray := prog_8_method_2_code
def yX6_isPlain : MethodName := ⟨RX6, "isPlain", "()Z"⟩
abbrev cX6_accepts : ByteArray := prog_8_method_3_code
def yX6_accepts : MethodName := ⟨RX6, "accepts", "(LColumnHouse$Cell;)Z"⟩
abbrev cX6_fits : ByteArray := prog_8_method_4_code
def yX6_fits : MethodName := ⟨RX6, "fits", "(I)Z"⟩
abbrev cX6_read : ByteArray := prog_8_method_5_code
def yX6_read : MethodName := ⟨RX6, "read", "(ILColumnHouse$Cell;)V"⟩
abbrev cX6_write : ByteArray := prog_8_method_6_code
def yX6_write : MethodName := ⟨RX6, "write", "(ILColumnHouse$Cell;)V"⟩
def RX7 : String := "ColumnHouse$WholeRow"
def TX7 : u_T := fun k => match k with
  | 0 => ("ColumnHouse$Row", "size", "I", true)
  | 1 => ("ColumnHouse$Thing", "kind", "I", true)
  | _ => ("ColumnHouse$WholeRow", "wholes", "[J", true)
def tyX7 : Nat → FieldType := fun k => match k with
  | 0 => .int
  | 1 => .int
  | _ => .array .long
theorem nmX7 : ∀ a, a < 3 → ∀ b, b < 3 → a ≠ b → (TX7 a).2.1 ≠ (TX7 b).2.1 := by decide +kernel
theorem tyX7_ok : ∀ k, k < 3 → parseFieldDescriptor (TX7 k).2.2.1 = some (tyX7 k) := by decide +kernel
abbrev cX7_init : ByteArray := prog_9_method_1_code
def yX7_init : MethodName := ⟨RX7, "<init>", "(II)V"⟩
abbrev cX7_read : ByteArray := prog_9_method_2_code
def yX7_read : MethodName := ⟨RX7, "read", "(ILColumnHouse$Cell;)V"⟩
abbrev cX7_write : ByteArray := prog_9_method_3_code
def yX7_write : MethodName := ⟨RX7, "write", "(ILColumnHouse$Cell;)V"⟩
def RX8 : String := "ColumnHouse"
def TX8 : u_T := fun k => match k with
  | 0 => ("ColumnHouse", "columns", "[LColumnHouse$Thing;", true)
  | 1 => ("ColumnHouse", "draft", "[LColumnHouse$Cell;", true)
  | 2 => ("ColumnHouse", "targets", "[I", true)
  | 3 => ("ColumnHouse", "left", "LColumnHouse$Cell;", true)
  | 4 => ("ColumnHouse", "right", "LColumnHouse$Cell;", true)
  | _ => ("ColumnHouse", "reason", "I", false)
def tyX8 : Nat → FieldType := fun k => match k with
  | 0 => .array (.object "ColumnHouse$Thing")
  | 1 => .array (.object "ColumnHouse$Cell")
  | 2 => .array .int
  | 3 => .object "ColumnHouse$Cell"
  | 4 => .object "ColumnHouse$Cell"
  | _ => .int
theorem nmX8 : ∀ a, a < 6 → ∀ b, b < 6 → a ≠ b → (TX8 a).2.1 ≠ (TX8 b).2.1 := by decide +kernel
theorem tyX8_ok : ∀ k, k < 6 → parseFieldDescriptor (TX8 k).2.2.1 = some (tyX8 k) := by decide +kernel
abbrev cX8_init : ByteArray := prog_1_method_1_code
def yX8_init : MethodName := ⟨RX8, "<init>", "()V"⟩
abbrev cX8_make : ByteArray := prog_1_method_2_code
def yX8_make : MethodName := ⟨RX8, "make", "(III)I"⟩
abbrev cX8_lay : ByteArray := prog_1_method_3_code
def yX8_lay : MethodName := ⟨RX8, "lay", "(II)I"⟩
abbrev cX8_places : ByteArray := prog_1_method_4_code
def yX8_places : MethodName := ⟨RX8, "places", "(I)I"⟩
abbrev cX8_kind : ByteArray := prog_1_method_5_code
def yX8_kind : MethodName := ⟨RX8, "kind", "(I)I"⟩
abbrev cX8_tag : ByteArray := prog_1_method_6_code
def yX8_tag : MethodName := ⟨RX8, "tag", "(I)I"⟩
abbrev cX8_load : ByteArray := prog_1_method_7_code
def yX8_load : MethodName := ⟨RX8, "load", "(I)I"⟩
abbrev cX8_put : ByteArray := prog_1_method_8_code
def yX8_put : MethodName := ⟨RX8, "put", "(IIIII)I"⟩
abbrev cX8_putBoxed : ByteArray := prog_1_method_9_code
def yX8_putBoxed : MethodName := ⟨RX8, "putBoxed", "(IIIII)I"⟩
abbrev cX8_putThing : ByteArray := prog_1_method_10_code
def yX8_putThing : MethodName := ⟨RX8, "putThing", "(III)I"⟩
abbrev cX8_number : ByteArray := prog_1_method_11_code
def yX8_number : MethodName := ⟨RX8, "number", "(III)J"⟩
abbrev cX8_point : ByteArray := prog_1_method_12_code
def yX8_point : MethodName := ⟨RX8, "point", "(III)D"⟩
abbrev cX8_what : ByteArray := prog_1_method_13_code
def yX8_what : MethodName := ⟨RX8, "what", "(II)I"⟩
abbrev cX8_take : ByteArray := prog_1_method_14_code
def yX8_take : MethodName := ⟨RX8, "take", "(III)I"⟩
abbrev cX8_copy : ByteArray := prog_1_method_15_code
def yX8_copy : MethodName := ⟨RX8, "copy", "(II)I"⟩
abbrev cX8_gather : ByteArray := prog_1_method_16_code
def yX8_gather : MethodName := ⟨RX8, "gather", "(III)I"⟩
abbrev cX8_scatter : ByteArray := prog_1_method_17_code
def yX8_scatter : MethodName := ⟨RX8, "scatter", "(III)I"⟩
abbrev cX8_merge : ByteArray := prog_1_method_18_code
def yX8_merge : MethodName := ⟨RX8, "merge", "(III)I"⟩
abbrev cX8_sort : ByteArray := prog_1_method_19_code
def yX8_sort : MethodName := ⟨RX8, "sort", "(I)I"⟩
abbrev cX8_turn : ByteArray := prog_1_method_20_code
def yX8_turn : MethodName := ⟨RX8, "turn", "(II)I"⟩
abbrev cX8_sum : ByteArray := prog_1_method_21_code
def yX8_sum : MethodName := ⟨RX8, "sum", "(I)J"⟩
abbrev cX8_total : ByteArray := prog_1_method_22_code
def yX8_total : MethodName := ⟨RX8, "total", "(I)D"⟩
abbrev cX8_find : ByteArray := prog_1_method_23_code
def yX8_find : MethodName := ⟨RX8, "find", "(IIIII)I"⟩
abbrev cX8_alike : ByteArray := prog_1_method_24_code
def yX8_alike : MethodName := ⟨RX8, "alike", "(II)I"⟩
abbrev cX8_why : ByteArray := prog_1_method_25_code
def yX8_why : MethodName := ⟨RX8, "why", "()I"⟩
abbrev cX8_refuse : ByteArray := prog_1_method_26_code
def yX8_refuse : MethodName := ⟨RX8, "refuse", "(I)I"⟩
abbrev cX8_done : ByteArray := prog_1_method_27_code
def yX8_done : MethodName := ⟨RX8, "done", "(I)I"⟩
abbrev cX8_isColumn : ByteArray := prog_1_method_28_code
def yX8_isColumn : MethodName := ⟨RX8, "isColumn", "(I)Z"⟩
abbrev cX8_rowIn : ByteArray := prog_1_method_29_code
def yX8_rowIn : MethodName := ⟨RX8, "rowIn", "(I)LColumnHouse$Row;"⟩
abbrev cX8_cardIn : ByteArray := prog_1_method_30_code
def yX8_cardIn : MethodName := ⟨RX8, "cardIn", "(I)LColumnHouse$Card;"⟩
abbrev cX8_kindOf : ByteArray := prog_1_method_31_code
def yX8_kindOf : MethodName := ⟨RX8, "kindOf", "(LColumnHouse$Thing;)I"⟩
abbrev cX8_newRow : ByteArray := prog_1_method_32_code
def yX8_newRow : MethodName := ⟨RX8, "newRow", "(II)LColumnHouse$Row;"⟩
abbrev cX8_whyNoRow : ByteArray := prog_1_method_33_code
def yX8_whyNoRow : MethodName := ⟨RX8, "whyNoRow", "(III)I"⟩
abbrev cX8_whyNoCard : ByteArray := prog_1_method_34_code
def yX8_whyNoCard : MethodName := ⟨RX8, "whyNoCard", "(I)I"⟩
abbrev cX8_whyNoValue : ByteArray := prog_1_method_35_code
def yX8_whyNoValue : MethodName := ⟨RX8, "whyNoValue", "(III)I"⟩
abbrev cX8_goesInto : ByteArray := prog_1_method_36_code
def yX8_goesInto : MethodName := ⟨RX8, "goesInto", "(II)Z"⟩
abbrev cX8_whyNoIndex : ByteArray := prog_1_method_37_code
def yX8_whyNoIndex : MethodName := ⟨RX8, "whyNoIndex", "(LColumnHouse$Row;I)I"⟩
abbrev cX8_placeAt : ByteArray := prog_1_method_38_code
def yX8_placeAt : MethodName := ⟨RX8, "placeAt", "(LColumnHouse$Row;I)I"⟩
abbrev cX8_secondIsNext : ByteArray := prog_1_method_39_code
def yX8_secondIsNext : MethodName := ⟨RX8, "secondIsNext", "(LColumnHouse$Row;ILColumnHouse$Row;I)Z"⟩
abbrev cX8_drafts : ByteArray := prog_1_method_40_code
def yX8_drafts : MethodName := ⟨RX8, "drafts", "(ILColumnHouse$Row;ILColumnHouse$Row;)Z"⟩
abbrev cX8_readDraft : ByteArray := prog_1_method_41_code
def yX8_readDraft : MethodName := ⟨RX8, "readDraft", "(LColumnHouse$Row;)V"⟩
abbrev cX8_writeDraft : ByteArray := prog_1_method_42_code
def yX8_writeDraft : MethodName := ⟨RX8, "writeDraft", "(LColumnHouse$Row;)I"⟩
abbrev cX8_orderDraft : ByteArray := prog_1_method_43_code
def yX8_orderDraft : MethodName := ⟨RX8, "orderDraft", "(I)V"⟩
def RX9 : String := "ColumnHouseModel"
def TX9 : u_T := fun k => match k with
  | 0 => ("ColumnHouseModel", "goes", "[I", true)
  | 1 => ("ColumnHouseModel", "kinds", "[I", true)
  | 2 => ("ColumnHouseModel", "lengths", "[I", true)
  | 3 => ("ColumnHouseModel", "tags", "[I", true)
  | 4 => ("ColumnHouseModel", "wholes", "[J", true)
  | 5 => ("ColumnHouseModel", "reals", "[D", true)
  | 6 => ("ColumnHouseModel", "things", "I", false)
  | 7 => ("ColumnHouseModel", "columns", "[I", true)
  | 8 => ("ColumnHouseModel", "why", "I", false)
  | 9 => ("ColumnHouseModel", "sortOf", "I", false)
  | 10 => ("ColumnHouseModel", "whole", "J", false)
  | 11 => ("ColumnHouseModel", "real", "D", false)
  | 12 => ("ColumnHouseModel", "newSorts", "[I", true)
  | 13 => ("ColumnHouseModel", "newWholes", "[J", true)
  | 14 => ("ColumnHouseModel", "newReals", "[D", true)
  | 15 => ("ColumnHouseModel", "froms", "[I", true)
  | _ => ("ColumnHouseModel", "tos", "[I", true)
def tyX9 : Nat → FieldType := fun k => match k with
  | 0 => .array .int
  | 1 => .array .int
  | 2 => .array .int
  | 3 => .array .int
  | 4 => .array .long
  | 5 => .array .double
  | 6 => .int
  | 7 => .array .int
  | 8 => .int
  | 9 => .int
  | 10 => .long
  | 11 => .double
  | 12 => .array .int
  | 13 => .array .long
  | 14 => .array .double
  | 15 => .array .int
  | _ => .array .int
theorem nmX9 : ∀ a, a < 17 → ∀ b, b < 17 → a ≠ b → (TX9 a).2.1 ≠ (TX9 b).2.1 := by decide +kernel
theorem tyX9_ok : ∀ k, k < 17 → parseFieldDescriptor (TX9 k).2.2.1 = some (tyX9 k) := by decide +kernel
abbrev cX9_init : ByteArray := prog_11_method_1_code
def yX9_init : MethodName := ⟨RX9, "<init>", "()V"⟩
abbrev cX9_refuse : ByteArray := prog_11_method_2_code
def yX9_refuse : MethodName := ⟨RX9, "refuse", "(I)I"⟩
abbrev cX9_isIn : ByteArray := prog_11_method_3_code
def yX9_isIn : MethodName := ⟨RX9, "isIn", "(III)Z"⟩
abbrev cX9_isColumn : ByteArray := prog_11_method_4_code
def yX9_isColumn : MethodName := ⟨RX9, "isColumn", "(I)Z"⟩
abbrev cX9_in : ByteArray := prog_11_method_5_code
def yX9_in : MethodName := ⟨RX9, "in", "(I)I"⟩
abbrev cX9_isRow : ByteArray := prog_11_method_6_code
def yX9_isRow : MethodName := ⟨RX9, "isRow", "(I)Z"⟩
abbrev cX9_isPlain : ByteArray := prog_11_method_7_code
def yX9_isPlain : MethodName := ⟨RX9, "isPlain", "(I)Z"⟩
abbrev cX9_hasPlace : ByteArray := prog_11_method_8_code
def yX9_hasPlace : MethodName := ⟨RX9, "hasPlace", "(II)Z"⟩
abbrev cX9_reasonOfRow : ByteArray := prog_11_method_9_code
def yX9_reasonOfRow : MethodName := ⟨RX9, "reasonOfRow", "(I)I"⟩
abbrev cX9_reasonOfRows : ByteArray := prog_11_method_10_code
def yX9_reasonOfRows : MethodName := ⟨RX9, "reasonOfRows", "(III)I"⟩
abbrev cX9_tell : ByteArray := prog_11_method_11_code
def yX9_tell : MethodName := ⟨RX9, "tell", "(III)V"⟩
abbrev cX9_get : ByteArray := prog_11_method_12_code
def yX9_get : MethodName := ⟨RX9, "get", "(II)V"⟩
abbrev cX9_goesInto : ByteArray := prog_11_method_13_code
def yX9_goesInto : MethodName := ⟨RX9, "goesInto", "(II)Z"⟩
abbrev cX9_widen : ByteArray := prog_11_method_14_code
def yX9_widen : MethodName := ⟨RX9, "widen", "(I)V"⟩
abbrev cX9_set : ByteArray := prog_11_method_15_code
def yX9_set : MethodName := ⟨RX9, "set", "(II)V"⟩
abbrev cX9_isFloating : ByteArray := prog_11_method_16_code
def yX9_isFloating : MethodName := ⟨RX9, "isFloating", "(I)Z"⟩
abbrev cX9_doubleOf : ByteArray := prog_11_method_17_code
def yX9_doubleOf : MethodName := ⟨RX9, "doubleOf", "(IJD)D"⟩
abbrev cX9_order : ByteArray := prog_11_method_18_code
def yX9_order : MethodName := ⟨RX9, "order", "(IJIJ)I"⟩
abbrev cX9_against : ByteArray := prog_11_method_19_code
def yX9_against : MethodName := ⟨RX9, "against", "(IJD)I"⟩
abbrev cX9_fits : ByteArray := prog_11_method_20_code
def yX9_fits : MethodName := ⟨RX9, "fits", "(IJ)Z"⟩
abbrev cX9_goesIn : ByteArray := prog_11_method_21_code
def yX9_goesIn : MethodName := ⟨RX9, "goesIn", "(I)Z"⟩
abbrev cX9_make : ByteArray := prog_11_method_22_code
def yX9_make : MethodName := ⟨RX9, "make", "(III)I"⟩
abbrev cX9_lay : ByteArray := prog_11_method_23_code
def yX9_lay : MethodName := ⟨RX9, "lay", "(II)I"⟩
abbrev cX9_places : ByteArray := prog_11_method_24_code
def yX9_places : MethodName := ⟨RX9, "places", "(I)I"⟩
abbrev cX9_kind : ByteArray := prog_11_method_25_code
def yX9_kind : MethodName := ⟨RX9, "kind", "(I)I"⟩
abbrev cX9_isCard : ByteArray := prog_11_method_26_code
def yX9_isCard : MethodName := ⟨RX9, "isCard", "(I)Z"⟩
abbrev cX9_tag : ByteArray := prog_11_method_27_code
def yX9_tag : MethodName := ⟨RX9, "tag", "(I)I"⟩
abbrev cX9_load : ByteArray := prog_11_method_28_code
def yX9_load : MethodName := ⟨RX9, "load", "(I)I"⟩
abbrev cX9_reasonOfPlace : ByteArray := prog_11_method_29_code
def yX9_reasonOfPlace : MethodName := ⟨RX9, "reasonOfPlace", "(II)I"⟩
abbrev cX9_put : ByteArray := prog_11_method_30_code
def yX9_put : MethodName := ⟨RX9, "put", "(IIIII)I"⟩
abbrev cX9_putBoxed : ByteArray := prog_11_method_31_code
def yX9_putBoxed : MethodName := ⟨RX9, "putBoxed", "(IIIII)I"⟩
abbrev cX9_putThing : ByteArray := prog_11_method_32_code
def yX9_putThing : MethodName := ⟨RX9, "putThing", "(III)I"⟩
abbrev cX9_reasonOfValue : ByteArray := prog_11_method_33_code
def yX9_reasonOfValue : MethodName := ⟨RX9, "reasonOfValue", "(III)I"⟩
abbrev cX9_number : ByteArray := prog_11_method_34_code
def yX9_number : MethodName := ⟨RX9, "number", "(III)J"⟩
abbrev cX9_point : ByteArray := prog_11_method_35_code
def yX9_point : MethodName := ⟨RX9, "point", "(III)D"⟩
abbrev cX9_kindOf : ByteArray := prog_11_method_36_code
def yX9_kindOf : MethodName := ⟨RX9, "kindOf", "(J)I"⟩
abbrev cX9_what : ByteArray := prog_11_method_37_code
def yX9_what : MethodName := ⟨RX9, "what", "(II)I"⟩
abbrev cX9_take : ByteArray := prog_11_method_38_code
def yX9_take : MethodName := ⟨RX9, "take", "(III)I"⟩
abbrev cX9_carry : ByteArray := prog_11_method_39_code
def yX9_carry : MethodName := ⟨RX9, "carry", "(III)I"⟩
abbrev cX9_copy : ByteArray := prog_11_method_40_code
def yX9_copy : MethodName := ⟨RX9, "copy", "(II)I"⟩
abbrev cX9_tellsPlaces : ByteArray := prog_11_method_41_code
def yX9_tellsPlaces : MethodName := ⟨RX9, "tellsPlaces", "(I)Z"⟩
abbrev cX9_gather : ByteArray := prog_11_method_42_code
def yX9_gather : MethodName := ⟨RX9, "gather", "(III)I"⟩
abbrev cX9_scatter : ByteArray := prog_11_method_43_code
def yX9_scatter : MethodName := ⟨RX9, "scatter", "(III)I"⟩
abbrev cX9_mergeAll : ByteArray := prog_11_method_44_code
def yX9_mergeAll : MethodName := ⟨RX9, "mergeAll", "(II)V"⟩
abbrev cX9_merge : ByteArray := prog_11_method_45_code
def yX9_merge : MethodName := ⟨RX9, "merge", "(III)I"⟩
abbrev cX9_rankOf : ByteArray := prog_11_method_46_code
def yX9_rankOf : MethodName := ⟨RX9, "rankOf", "(J)J"⟩
abbrev cX9_isBefore : ByteArray := prog_11_method_47_code
def yX9_isBefore : MethodName := ⟨RX9, "isBefore", "(III)Z"⟩
abbrev cX9_swap : ByteArray := prog_11_method_48_code
def yX9_swap : MethodName := ⟨RX9, "swap", "(III)V"⟩
abbrev cX9_hasMinus : ByteArray := prog_11_method_49_code
def yX9_hasMinus : MethodName := ⟨RX9, "hasMinus", "(D)Z"⟩
abbrev cX9_others : ByteArray := prog_11_method_50_code
def yX9_others : MethodName := ⟨RX9, "others", "(I)I"⟩
abbrev cX9_takeOut : ByteArray := prog_11_method_51_code
def yX9_takeOut : MethodName := ⟨RX9, "takeOut", "(I)V"⟩
abbrev cX9_sort : ByteArray := prog_11_method_52_code
def yX9_sort : MethodName := ⟨RX9, "sort", "(I)I"⟩
abbrev cX9_turn : ByteArray := prog_11_method_53_code
def yX9_turn : MethodName := ⟨RX9, "turn", "(II)I"⟩
abbrev cX9_sum : ByteArray := prog_11_method_54_code
def yX9_sum : MethodName := ⟨RX9, "sum", "(I)J"⟩
abbrev cX9_total : ByteArray := prog_11_method_55_code
def yX9_total : MethodName := ⟨RX9, "total", "(I)D"⟩
abbrev cX9_find : ByteArray := prog_11_method_56_code
def yX9_find : MethodName := ⟨RX9, "find", "(IIIII)I"⟩
abbrev cX9_areAlike : ByteArray := prog_11_method_57_code
def yX9_areAlike : MethodName := ⟨RX9, "areAlike", "(III)Z"⟩
abbrev cX9_alike : ByteArray := prog_11_method_58_code
def yX9_alike : MethodName := ⟨RX9, "alike", "(II)I"⟩
abbrev cX9_why : ByteArray := prog_11_method_59_code
def yX9_why : MethodName := ⟨RX9, "why", "()I"⟩
def RJ9 : String := "java/lang/Math"
abbrev cJ9_floorMod_7cf53 : ByteArray := prog_12_method_50_code
def yJ9_floorMod_7cf53 : MethodName := ⟨RJ9, "floorMod", "(II)I"⟩
abbrev cJ9_max_7cf53 : ByteArray := prog_12_method_65_code
def yJ9_max_7cf53 : MethodName := ⟨RJ9, "max", "(II)I"⟩
def RL : String := "ColumnHouseLaw"
abbrev cL_law : ByteArray := code
def yL_law : MethodName := ⟨RL, "law", "([I)Z"⟩
theorem dX0_init_0 : decode cX0_init 0 = .ok (.aload_n 0, 1) := by decide +kernel
theorem dX0_init_1 : decode cX0_init 1 = .ok (.iload_n 1, 1) := by decide +kernel
theorem dX0_init_2 : decode cX0_init 2 = .ok (.invokespecial 1, 3) := by decide +kernel
theorem dX0_init_5 : decode cX0_init 5 = .ok (.aload_n 0, 1) := by decide +kernel
theorem dX0_init_6 : decode cX0_init 6 = .ok (.iload_n 2, 1) := by decide +kernel
theorem dX0_init_7 : decode cX0_init 7 = .ok (.putfield 7, 3) := by decide +kernel
theorem dX0_init_10 : decode cX0_init 10 = .ok (.return_, 1) := by decide +kernel
theorem dX0_rank_0 : decode cX0_rank 0 = .ok (.aload_n 0, 1) := by decide +kernel
theorem dX0_rank_1 : decode cX0_rank 1 = .ok (.getfield 7, 3) := by decide +kernel
theorem dX0_rank_4 : decode cX0_rank 4 = .ok (.ireturn, 1) := by decide +kernel
theorem dX1_init_0 : decode cX1_init 0 = .ok (.aload_n 0, 1) := by decide +kernel
theorem dX1_init_1 : decode cX1_init 1 = .ok (.invokespecial 3, 3) := by decide +kernel
theorem dX1_init_4 : decode cX1_init 4 = .ok (.aload_n 0, 1) := by decide +kernel
theorem dX1_init_5 : decode cX1_init 5 = .ok (.iconst (-1), 1) := by decide +kernel
theorem dX1_init_6 : decode cX1_init 6 = .ok (.putfield 11, 3) := by decide +kernel
theorem dX1_init_9 : decode cX1_init 9 = .ok (.return_, 1) := by decide +kernel
theorem dX1_holdWhole_0 : decode cX1_holdWhole 0 = .ok (.aload_n 0, 1) := by decide +kernel
theorem dX1_holdWhole_1 : decode cX1_holdWhole 1 = .ok (.iload_n 1, 1) := by decide +kernel
theorem dX1_holdWhole_2 : decode cX1_holdWhole 2 = .ok (.putfield 11, 3) := by decide +kernel
theorem dX1_holdWhole_5 : decode cX1_holdWhole 5 = .ok (.aload_n 0, 1) := by decide +kernel
theorem dX1_holdWhole_6 : decode cX1_holdWhole 6 = .ok (.lload_n 2, 1) := by decide +kernel
theorem dX1_holdWhole_7 : decode cX1_holdWhole 7 = .ok (.putfield 15, 3) := by decide +kernel
theorem dX1_holdWhole_10 : decode cX1_holdWhole 10 = .ok (.return_, 1) := by decide +kernel
theorem dX1_holdPoint_0 : decode cX1_holdPoint 0 = .ok (.aload_n 0, 1) := by decide +kernel
theorem dX1_holdPoint_1 : decode cX1_holdPoint 1 = .ok (.iload_n 1, 1) := by decide +kernel
theorem dX1_holdPoint_2 : decode cX1_holdPoint 2 = .ok (.putfield 11, 3) := by decide +kernel
theorem dX1_holdPoint_5 : decode cX1_holdPoint 5 = .ok (.aload_n 0, 1) := by decide +kernel
theorem dX1_holdPoint_6 : decode cX1_holdPoint 6 = .ok (.dload_n 2, 1) := by decide +kernel
theorem dX1_holdPoint_7 : decode cX1_holdPoint 7 = .ok (.putfield 19, 3) := by decide +kernel
theorem dX1_holdPoint_10 : decode cX1_holdPoint 10 = .ok (.return_, 1) := by decide +kernel
theorem dX1_holdThing_0 : decode cX1_holdThing 0 = .ok (.aload_n 0, 1) := by decide +kernel
theorem dX1_holdThing_1 : decode cX1_holdThing 1 = .ok (.iconst (-1), 1) := by decide +kernel
theorem dX1_holdThing_2 : decode cX1_holdThing 2 = .ok (.putfield 11, 3) := by decide +kernel
theorem dX1_holdThing_5 : decode cX1_holdThing 5 = .ok (.aload_n 0, 1) := by decide +kernel
theorem dX1_holdThing_6 : decode cX1_holdThing 6 = .ok (.aload_n 1, 1) := by decide +kernel
theorem dX1_holdThing_7 : decode cX1_holdThing 7 = .ok (.putfield 23, 3) := by decide +kernel
theorem dX1_holdThing_10 : decode cX1_holdThing 10 = .ok (.return_, 1) := by decide +kernel
theorem dX1_holdTold_0 : decode cX1_holdTold 0 = .ok (.iload_n 2, 1) := by decide +kernel
theorem dX1_holdTold_1 : decode cX1_holdTold 1 = .ok (.i2l, 1) := by decide +kernel
theorem dX1_holdTold_2 : decode cX1_holdTold 2 = .ok (.bipush 32, 2) := by decide +kernel
theorem dX1_holdTold_4 : decode cX1_holdTold 4 = .ok (.lshl, 1) := by decide +kernel
theorem dX1_holdTold_5 : decode cX1_holdTold 5 = .ok (.iload_n 3, 1) := by decide +kernel
theorem dX1_holdTold_6 : decode cX1_holdTold 6 = .ok (.i2l, 1) := by decide +kernel
theorem dX1_holdTold_7 : decode cX1_holdTold 7 = .ok (.ldc2_w 27, 3) := by decide +kernel
theorem dX1_holdTold_10 : decode cX1_holdTold 10 = .ok (.land, 1) := by decide +kernel
theorem dX1_holdTold_11 : decode cX1_holdTold 11 = .ok (.lor, 1) := by decide +kernel
theorem dX1_holdTold_12 : decode cX1_holdTold 12 = .ok (.lstore 4, 2) := by decide +kernel
theorem dX1_holdTold_14 : decode cX1_holdTold 14 = .ok (.iload_n 1, 1) := by decide +kernel
theorem dX1_holdTold_15 : decode cX1_holdTold 15 = .ok (.tableswitch 130 0 6 #[41, 53, 66, 79, 92, 104, 114], 41) := by decide +kernel
theorem dX1_holdTold_56 : decode cX1_holdTold 56 = .ok (.aload_n 0, 1) := by decide +kernel
theorem dX1_holdTold_57 : decode cX1_holdTold 57 = .ok (.iconst 0, 1) := by decide +kernel
theorem dX1_holdTold_58 : decode cX1_holdTold 58 = .ok (.lload 4, 2) := by decide +kernel
theorem dX1_holdTold_60 : decode cX1_holdTold 60 = .ok (.lconst 1, 1) := by decide +kernel
theorem dX1_holdTold_61 : decode cX1_holdTold 61 = .ok (.land, 1) := by decide +kernel
theorem dX1_holdTold_62 : decode cX1_holdTold 62 = .ok (.invokevirtual 29, 3) := by decide +kernel
theorem dX1_holdTold_65 : decode cX1_holdTold 65 = .ok (.goto 93, 3) := by decide +kernel
theorem dX1_holdTold_68 : decode cX1_holdTold 68 = .ok (.aload_n 0, 1) := by decide +kernel
theorem dX1_holdTold_69 : decode cX1_holdTold 69 = .ok (.iconst 1, 1) := by decide +kernel
theorem dX1_holdTold_70 : decode cX1_holdTold 70 = .ok (.lload 4, 2) := by decide +kernel
theorem dX1_holdTold_72 : decode cX1_holdTold 72 = .ok (.l2i, 1) := by decide +kernel
theorem dX1_holdTold_73 : decode cX1_holdTold 73 = .ok (.i2b, 1) := by decide +kernel
theorem dX1_holdTold_74 : decode cX1_holdTold 74 = .ok (.i2l, 1) := by decide +kernel
theorem dX1_holdTold_75 : decode cX1_holdTold 75 = .ok (.invokevirtual 29, 3) := by decide +kernel
theorem dX1_holdTold_78 : decode cX1_holdTold 78 = .ok (.goto 80, 3) := by decide +kernel
theorem dX1_holdTold_81 : decode cX1_holdTold 81 = .ok (.aload_n 0, 1) := by decide +kernel
theorem dX1_holdTold_82 : decode cX1_holdTold 82 = .ok (.iconst 2, 1) := by decide +kernel
theorem dX1_holdTold_83 : decode cX1_holdTold 83 = .ok (.lload 4, 2) := by decide +kernel
theorem dX1_holdTold_85 : decode cX1_holdTold 85 = .ok (.l2i, 1) := by decide +kernel
theorem dX1_holdTold_86 : decode cX1_holdTold 86 = .ok (.i2c, 1) := by decide +kernel
theorem dX1_holdTold_87 : decode cX1_holdTold 87 = .ok (.i2l, 1) := by decide +kernel
theorem dX1_holdTold_88 : decode cX1_holdTold 88 = .ok (.invokevirtual 29, 3) := by decide +kernel
theorem dX1_holdTold_91 : decode cX1_holdTold 91 = .ok (.goto 67, 3) := by decide +kernel
theorem dX1_holdTold_94 : decode cX1_holdTold 94 = .ok (.aload_n 0, 1) := by decide +kernel
theorem dX1_holdTold_95 : decode cX1_holdTold 95 = .ok (.iconst 3, 1) := by decide +kernel
theorem dX1_holdTold_96 : decode cX1_holdTold 96 = .ok (.lload 4, 2) := by decide +kernel
theorem dX1_holdTold_98 : decode cX1_holdTold 98 = .ok (.l2i, 1) := by decide +kernel
theorem dX1_holdTold_99 : decode cX1_holdTold 99 = .ok (.i2s, 1) := by decide +kernel
theorem dX1_holdTold_100 : decode cX1_holdTold 100 = .ok (.i2l, 1) := by decide +kernel
theorem dX1_holdTold_101 : decode cX1_holdTold 101 = .ok (.invokevirtual 29, 3) := by decide +kernel
theorem dX1_holdTold_104 : decode cX1_holdTold 104 = .ok (.goto 54, 3) := by decide +kernel
theorem dX1_holdTold_107 : decode cX1_holdTold 107 = .ok (.aload_n 0, 1) := by decide +kernel
theorem dX1_holdTold_108 : decode cX1_holdTold 108 = .ok (.iconst 4, 1) := by decide +kernel
theorem dX1_holdTold_109 : decode cX1_holdTold 109 = .ok (.lload 4, 2) := by decide +kernel
theorem dX1_holdTold_111 : decode cX1_holdTold 111 = .ok (.l2i, 1) := by decide +kernel
theorem dX1_holdTold_112 : decode cX1_holdTold 112 = .ok (.i2l, 1) := by decide +kernel
theorem dX1_holdTold_113 : decode cX1_holdTold 113 = .ok (.invokevirtual 29, 3) := by decide +kernel
theorem dX1_holdTold_116 : decode cX1_holdTold 116 = .ok (.goto 42, 3) := by decide +kernel
theorem dX1_holdTold_119 : decode cX1_holdTold 119 = .ok (.aload_n 0, 1) := by decide +kernel
theorem dX1_holdTold_120 : decode cX1_holdTold 120 = .ok (.iconst 5, 1) := by decide +kernel
theorem dX1_holdTold_121 : decode cX1_holdTold 121 = .ok (.lload 4, 2) := by decide +kernel
theorem dX1_holdTold_123 : decode cX1_holdTold 123 = .ok (.invokevirtual 29, 3) := by decide +kernel
theorem dX1_holdTold_126 : decode cX1_holdTold 126 = .ok (.goto 32, 3) := by decide +kernel
theorem dX1_holdTold_129 : decode cX1_holdTold 129 = .ok (.aload_n 0, 1) := by decide +kernel
theorem dX1_holdTold_130 : decode cX1_holdTold 130 = .ok (.bipush 6, 2) := by decide +kernel
theorem dX1_holdTold_132 : decode cX1_holdTold 132 = .ok (.lload 4, 2) := by decide +kernel
theorem dX1_holdTold_134 : decode cX1_holdTold 134 = .ok (.l2f, 1) := by decide +kernel
theorem dX1_holdTold_135 : decode cX1_holdTold 135 = .ok (.ldc 33, 2) := by decide +kernel
theorem dX1_holdTold_137 : decode cX1_holdTold 137 = .ok (.fdiv, 1) := by decide +kernel
theorem dX1_holdTold_138 : decode cX1_holdTold 138 = .ok (.f2d, 1) := by decide +kernel
theorem dX1_holdTold_139 : decode cX1_holdTold 139 = .ok (.invokevirtual 34, 3) := by decide +kernel
theorem dX1_holdTold_142 : decode cX1_holdTold 142 = .ok (.goto 16, 3) := by decide +kernel
theorem dX1_holdTold_145 : decode cX1_holdTold 145 = .ok (.aload_n 0, 1) := by decide +kernel
theorem dX1_holdTold_146 : decode cX1_holdTold 146 = .ok (.bipush 7, 2) := by decide +kernel
theorem dX1_holdTold_148 : decode cX1_holdTold 148 = .ok (.lload 4, 2) := by decide +kernel
theorem dX1_holdTold_150 : decode cX1_holdTold 150 = .ok (.l2d, 1) := by decide +kernel
theorem dX1_holdTold_151 : decode cX1_holdTold 151 = .ok (.ldc2_w 38, 3) := by decide +kernel
theorem dX1_holdTold_154 : decode cX1_holdTold 154 = .ok (.ddiv, 1) := by decide +kernel
theorem dX1_holdTold_155 : decode cX1_holdTold 155 = .ok (.invokevirtual 34, 3) := by decide +kernel
theorem dX1_holdTold_158 : decode cX1_holdTold 158 = .ok (.return_, 1) := by decide +kernel
theorem dX1_isValue_0 : decode cX1_isValue 0 = .ok (.aload_n 0, 1) := by decide +kernel
theorem dX1_isValue_1 : decode cX1_isValue 1 = .ok (.getfield 11, 3) := by decide +kernel
theorem dX1_isValue_4 : decode cX1_isValue 4 = .ok (.iconst (-1), 1) := by decide +kernel
theorem dX1_isValue_5 : decode cX1_isValue 5 = .ok (.if_icmp .eq 7, 3) := by decide +kernel
theorem dX1_isValue_8 : decode cX1_isValue 8 = .ok (.iconst 1, 1) := by decide +kernel
theorem dX1_isValue_9 : decode cX1_isValue 9 = .ok (.goto 4, 3) := by decide +kernel
theorem dX1_isValue_12 : decode cX1_isValue 12 = .ok (.iconst 0, 1) := by decide +kernel
theorem dX1_isValue_13 : decode cX1_isValue 13 = .ok (.ireturn, 1) := by decide +kernel
theorem dX1_asPoint_0 : decode cX1_asPoint 0 = .ok (.aload_n 0, 1) := by decide +kernel
theorem dX1_asPoint_1 : decode cX1_asPoint 1 = .ok (.getfield 11, 3) := by decide +kernel
theorem dX1_asPoint_4 : decode cX1_asPoint 4 = .ok (.bipush 6, 2) := by decide +kernel
theorem dX1_asPoint_6 : decode cX1_asPoint 6 = .ok (.if_icmp .lt 8, 3) := by decide +kernel
theorem dX1_asPoint_9 : decode cX1_asPoint 9 = .ok (.aload_n 0, 1) := by decide +kernel
theorem dX1_asPoint_10 : decode cX1_asPoint 10 = .ok (.getfield 19, 3) := by decide +kernel
theorem dX1_asPoint_13 : decode cX1_asPoint 13 = .ok (.dreturn, 1) := by decide +kernel
theorem dX1_asPoint_14 : decode cX1_asPoint 14 = .ok (.iload_n 1, 1) := by decide +kernel
theorem dX1_asPoint_15 : decode cX1_asPoint 15 = .ok (.bipush 6, 2) := by decide +kernel
theorem dX1_asPoint_17 : decode cX1_asPoint 17 = .ok (.if_icmp .ne 10, 3) := by decide +kernel
theorem dX1_asPoint_20 : decode cX1_asPoint 20 = .ok (.aload_n 0, 1) := by decide +kernel
theorem dX1_asPoint_21 : decode cX1_asPoint 21 = .ok (.getfield 15, 3) := by decide +kernel
theorem dX1_asPoint_24 : decode cX1_asPoint 24 = .ok (.l2f, 1) := by decide +kernel
theorem dX1_asPoint_25 : decode cX1_asPoint 25 = .ok (.f2d, 1) := by decide +kernel
theorem dX1_asPoint_26 : decode cX1_asPoint 26 = .ok (.dreturn, 1) := by decide +kernel
theorem dX1_asPoint_27 : decode cX1_asPoint 27 = .ok (.aload_n 0, 1) := by decide +kernel
theorem dX1_asPoint_28 : decode cX1_asPoint 28 = .ok (.getfield 15, 3) := by decide +kernel
theorem dX1_asPoint_31 : decode cX1_asPoint 31 = .ok (.l2d, 1) := by decide +kernel
theorem dX1_asPoint_32 : decode cX1_asPoint 32 = .ok (.dreturn, 1) := by decide +kernel
theorem dX1_isLike_0 : decode cX1_isLike 0 = .ok (.aload_n 0, 1) := by decide +kernel
theorem dX1_isLike_1 : decode cX1_isLike 1 = .ok (.invokevirtual 40, 3) := by decide +kernel
theorem dX1_isLike_4 : decode cX1_isLike 4 = .ok (.ifCond .eq 10, 3) := by decide +kernel
theorem dX1_isLike_7 : decode cX1_isLike 7 = .ok (.aload_n 1, 1) := by decide +kernel
theorem dX1_isLike_8 : decode cX1_isLike 8 = .ok (.invokevirtual 40, 3) := by decide +kernel
theorem dX1_isLike_11 : decode cX1_isLike 11 = .ok (.ifCond .ne 31, 3) := by decide +kernel
theorem dX1_isLike_14 : decode cX1_isLike 14 = .ok (.aload_n 0, 1) := by decide +kernel
theorem dX1_isLike_15 : decode cX1_isLike 15 = .ok (.getfield 11, 3) := by decide +kernel
theorem dX1_isLike_18 : decode cX1_isLike 18 = .ok (.aload_n 1, 1) := by decide +kernel
theorem dX1_isLike_19 : decode cX1_isLike 19 = .ok (.getfield 11, 3) := by decide +kernel
theorem dX1_isLike_22 : decode cX1_isLike 22 = .ok (.if_icmp .ne 18, 3) := by decide +kernel
theorem dX1_isLike_25 : decode cX1_isLike 25 = .ok (.aload_n 0, 1) := by decide +kernel
theorem dX1_isLike_26 : decode cX1_isLike 26 = .ok (.getfield 23, 3) := by decide +kernel
theorem dX1_isLike_29 : decode cX1_isLike 29 = .ok (.aload_n 1, 1) := by decide +kernel
theorem dX1_isLike_30 : decode cX1_isLike 30 = .ok (.getfield 23, 3) := by decide +kernel
theorem dX1_isLike_33 : decode cX1_isLike 33 = .ok (.if_acmp .ne 7, 3) := by decide +kernel
theorem dX1_isLike_36 : decode cX1_isLike 36 = .ok (.iconst 1, 1) := by decide +kernel
theorem dX1_isLike_37 : decode cX1_isLike 37 = .ok (.goto 4, 3) := by decide +kernel
theorem dX1_isLike_40 : decode cX1_isLike 40 = .ok (.iconst 0, 1) := by decide +kernel
theorem dX1_isLike_41 : decode cX1_isLike 41 = .ok (.ireturn, 1) := by decide +kernel
theorem dX1_isLike_42 : decode cX1_isLike 42 = .ok (.aload_n 0, 1) := by decide +kernel
theorem dX1_isLike_43 : decode cX1_isLike 43 = .ok (.getfield 11, 3) := by decide +kernel
theorem dX1_isLike_46 : decode cX1_isLike 46 = .ok (.ifCond .ne 7, 3) := by decide +kernel
theorem dX1_isLike_49 : decode cX1_isLike 49 = .ok (.iconst 1, 1) := by decide +kernel
theorem dX1_isLike_50 : decode cX1_isLike 50 = .ok (.goto 4, 3) := by decide +kernel
theorem dX1_isLike_53 : decode cX1_isLike 53 = .ok (.iconst 0, 1) := by decide +kernel
theorem dX1_isLike_54 : decode cX1_isLike 54 = .ok (.aload_n 1, 1) := by decide +kernel
theorem dX1_isLike_55 : decode cX1_isLike 55 = .ok (.getfield 11, 3) := by decide +kernel
theorem dX1_isLike_58 : decode cX1_isLike 58 = .ok (.ifCond .ne 7, 3) := by decide +kernel
theorem dX1_isLike_61 : decode cX1_isLike 61 = .ok (.iconst 1, 1) := by decide +kernel
theorem dX1_isLike_62 : decode cX1_isLike 62 = .ok (.goto 4, 3) := by decide +kernel
theorem dX1_isLike_65 : decode cX1_isLike 65 = .ok (.iconst 0, 1) := by decide +kernel
theorem dX1_isLike_66 : decode cX1_isLike 66 = .ok (.if_icmp .eq 5, 3) := by decide +kernel
theorem dX1_isLike_69 : decode cX1_isLike 69 = .ok (.iconst 0, 1) := by decide +kernel
theorem dX1_isLike_70 : decode cX1_isLike 70 = .ok (.ireturn, 1) := by decide +kernel
theorem dX1_isLike_71 : decode cX1_isLike 71 = .ok (.aload_n 0, 1) := by decide +kernel
theorem dX1_isLike_72 : decode cX1_isLike 72 = .ok (.getfield 11, 3) := by decide +kernel
theorem dX1_isLike_75 : decode cX1_isLike 75 = .ok (.bipush 6, 2) := by decide +kernel
theorem dX1_isLike_77 : decode cX1_isLike 77 = .ok (.if_icmp .ge 30, 3) := by decide +kernel
theorem dX1_isLike_80 : decode cX1_isLike 80 = .ok (.aload_n 1, 1) := by decide +kernel
theorem dX1_isLike_81 : decode cX1_isLike 81 = .ok (.getfield 11, 3) := by decide +kernel
theorem dX1_isLike_84 : decode cX1_isLike 84 = .ok (.bipush 6, 2) := by decide +kernel
theorem dX1_isLike_86 : decode cX1_isLike 86 = .ok (.if_icmp .ge 21, 3) := by decide +kernel
theorem dX1_isLike_89 : decode cX1_isLike 89 = .ok (.aload_n 0, 1) := by decide +kernel
theorem dX1_isLike_90 : decode cX1_isLike 90 = .ok (.getfield 15, 3) := by decide +kernel
theorem dX1_isLike_93 : decode cX1_isLike 93 = .ok (.aload_n 1, 1) := by decide +kernel
theorem dX1_isLike_94 : decode cX1_isLike 94 = .ok (.getfield 15, 3) := by decide +kernel
theorem dX1_isLike_97 : decode cX1_isLike 97 = .ok (.lcmp, 1) := by decide +kernel
theorem dX1_isLike_98 : decode cX1_isLike 98 = .ok (.ifCond .ne 7, 3) := by decide +kernel
theorem dX1_isLike_101 : decode cX1_isLike 101 = .ok (.iconst 1, 1) := by decide +kernel
theorem dX1_isLike_102 : decode cX1_isLike 102 = .ok (.goto 4, 3) := by decide +kernel
theorem dX1_isLike_105 : decode cX1_isLike 105 = .ok (.iconst 0, 1) := by decide +kernel
theorem dX1_isLike_106 : decode cX1_isLike 106 = .ok (.ireturn, 1) := by decide +kernel
theorem dX1_isLike_107 : decode cX1_isLike 107 = .ok (.aload_n 0, 1) := by decide +kernel
theorem dX1_isLike_108 : decode cX1_isLike 108 = .ok (.bipush 7, 2) := by decide +kernel
theorem dX1_isLike_110 : decode cX1_isLike 110 = .ok (.invokevirtual 44, 3) := by decide +kernel
theorem dX1_isLike_113 : decode cX1_isLike 113 = .ok (.aload_n 1, 1) := by decide +kernel
theorem dX1_isLike_114 : decode cX1_isLike 114 = .ok (.bipush 7, 2) := by decide +kernel
theorem dX1_isLike_116 : decode cX1_isLike 116 = .ok (.invokevirtual 44, 3) := by decide +kernel
theorem dX1_isLike_119 : decode cX1_isLike 119 = .ok (.dcmp .l, 1) := by decide +kernel
theorem dX1_isLike_120 : decode cX1_isLike 120 = .ok (.ifCond .ne 7, 3) := by decide +kernel
theorem dX1_isLike_123 : decode cX1_isLike 123 = .ok (.iconst 1, 1) := by decide +kernel
theorem dX1_isLike_124 : decode cX1_isLike 124 = .ok (.goto 4, 3) := by decide +kernel
theorem dX1_isLike_127 : decode cX1_isLike 127 = .ok (.iconst 0, 1) := by decide +kernel
theorem dX1_isLike_128 : decode cX1_isLike 128 = .ok (.ireturn, 1) := by decide +kernel
theorem dX1_isLess_0 : decode cX1_isLess 0 = .ok (.aload_n 0, 1) := by decide +kernel
theorem dX1_isLess_1 : decode cX1_isLess 1 = .ok (.invokevirtual 40, 3) := by decide +kernel
theorem dX1_isLess_4 : decode cX1_isLess 4 = .ok (.ifCond .ne 40, 3) := by decide +kernel
theorem dX1_isLess_7 : decode cX1_isLess 7 = .ok (.aload_n 1, 1) := by decide +kernel
theorem dX1_isLess_8 : decode cX1_isLess 8 = .ok (.getfield 23, 3) := by decide +kernel
theorem dX1_isLess_11 : decode cX1_isLess 11 = .ok (.ifnull 31, 3) := by decide +kernel
theorem dX1_isLess_14 : decode cX1_isLess 14 = .ok (.aload_n 0, 1) := by decide +kernel
theorem dX1_isLess_15 : decode cX1_isLess 15 = .ok (.getfield 23, 3) := by decide +kernel
theorem dX1_isLess_18 : decode cX1_isLess 18 = .ok (.ifnull 20, 3) := by decide +kernel
theorem dX1_isLess_21 : decode cX1_isLess 21 = .ok (.aload_n 0, 1) := by decide +kernel
theorem dX1_isLess_22 : decode cX1_isLess 22 = .ok (.getfield 23, 3) := by decide +kernel
theorem dX1_isLess_25 : decode cX1_isLess 25 = .ok (.invokevirtual 48, 3) := by decide +kernel
theorem dX1_isLess_28 : decode cX1_isLess 28 = .ok (.aload_n 1, 1) := by decide +kernel
theorem dX1_isLess_29 : decode cX1_isLess 29 = .ok (.getfield 23, 3) := by decide +kernel
theorem dX1_isLess_32 : decode cX1_isLess 32 = .ok (.invokevirtual 48, 3) := by decide +kernel
theorem dX1_isLess_35 : decode cX1_isLess 35 = .ok (.if_icmp .ge 7, 3) := by decide +kernel
theorem dX1_isLess_38 : decode cX1_isLess 38 = .ok (.iconst 1, 1) := by decide +kernel
theorem dX1_isLess_39 : decode cX1_isLess 39 = .ok (.goto 4, 3) := by decide +kernel
theorem dX1_isLess_42 : decode cX1_isLess 42 = .ok (.iconst 0, 1) := by decide +kernel
theorem dX1_isLess_43 : decode cX1_isLess 43 = .ok (.ireturn, 1) := by decide +kernel
theorem dX1_isLess_44 : decode cX1_isLess 44 = .ok (.aload_n 0, 1) := by decide +kernel
theorem dX1_isLess_45 : decode cX1_isLess 45 = .ok (.getfield 11, 3) := by decide +kernel
theorem dX1_isLess_48 : decode cX1_isLess 48 = .ok (.bipush 6, 2) := by decide +kernel
theorem dX1_isLess_50 : decode cX1_isLess 50 = .ok (.if_icmp .ge 30, 3) := by decide +kernel
theorem dX1_isLess_53 : decode cX1_isLess 53 = .ok (.aload_n 1, 1) := by decide +kernel
theorem dX1_isLess_54 : decode cX1_isLess 54 = .ok (.getfield 11, 3) := by decide +kernel
theorem dX1_isLess_57 : decode cX1_isLess 57 = .ok (.bipush 6, 2) := by decide +kernel
theorem dX1_isLess_59 : decode cX1_isLess 59 = .ok (.if_icmp .ge 21, 3) := by decide +kernel
theorem dX1_isLess_62 : decode cX1_isLess 62 = .ok (.aload_n 0, 1) := by decide +kernel
theorem dX1_isLess_63 : decode cX1_isLess 63 = .ok (.getfield 15, 3) := by decide +kernel
theorem dX1_isLess_66 : decode cX1_isLess 66 = .ok (.aload_n 1, 1) := by decide +kernel
theorem dX1_isLess_67 : decode cX1_isLess 67 = .ok (.getfield 15, 3) := by decide +kernel
theorem dX1_isLess_70 : decode cX1_isLess 70 = .ok (.lcmp, 1) := by decide +kernel
theorem dX1_isLess_71 : decode cX1_isLess 71 = .ok (.ifCond .ge 7, 3) := by decide +kernel
theorem dX1_isLess_74 : decode cX1_isLess 74 = .ok (.iconst 1, 1) := by decide +kernel
theorem dX1_isLess_75 : decode cX1_isLess 75 = .ok (.goto 4, 3) := by decide +kernel
theorem dX1_isLess_78 : decode cX1_isLess 78 = .ok (.iconst 0, 1) := by decide +kernel
theorem dX1_isLess_79 : decode cX1_isLess 79 = .ok (.ireturn, 1) := by decide +kernel
theorem dX1_isLess_80 : decode cX1_isLess 80 = .ok (.aload_n 0, 1) := by decide +kernel
theorem dX1_isLess_81 : decode cX1_isLess 81 = .ok (.bipush 7, 2) := by decide +kernel
theorem dX1_isLess_83 : decode cX1_isLess 83 = .ok (.invokevirtual 44, 3) := by decide +kernel
theorem dX1_isLess_86 : decode cX1_isLess 86 = .ok (.aload_n 1, 1) := by decide +kernel
theorem dX1_isLess_87 : decode cX1_isLess 87 = .ok (.bipush 7, 2) := by decide +kernel
theorem dX1_isLess_89 : decode cX1_isLess 89 = .ok (.invokevirtual 44, 3) := by decide +kernel
theorem dX1_isLess_92 : decode cX1_isLess 92 = .ok (.dcmp .g, 1) := by decide +kernel
theorem dX1_isLess_93 : decode cX1_isLess 93 = .ok (.ifCond .ge 7, 3) := by decide +kernel
theorem dX1_isLess_96 : decode cX1_isLess 96 = .ok (.iconst 1, 1) := by decide +kernel
theorem dX1_isLess_97 : decode cX1_isLess 97 = .ok (.goto 4, 3) := by decide +kernel
theorem dX1_isLess_100 : decode cX1_isLess 100 = .ok (.iconst 0, 1) := by decide +kernel
theorem dX1_isLess_101 : decode cX1_isLess 101 = .ok (.ireturn, 1) := by decide +kernel
theorem dX2_init_0 : decode cX2_init 0 = .ok (.aload_n 0, 1) := by decide +kernel
theorem dX2_init_1 : decode cX2_init 1 = .ok (.iload_n 1, 1) := by decide +kernel
theorem dX2_init_2 : decode cX2_init 2 = .ok (.iload_n 2, 1) := by decide +kernel
theorem dX2_init_3 : decode cX2_init 3 = .ok (.invokespecial 1, 3) := by decide +kernel
theorem dX2_init_6 : decode cX2_init 6 = .ok (.return_, 1) := by decide +kernel
theorem dX2_isPlain_0 : decode cX2_isPlain 0 = .ok (.iconst 1, 1) := by decide +kernel
theorem dX2_isPlain_1 : decode cX2_isPlain 1 = .ok (.ireturn, 1) := by decide +kernel
theorem dX2_accepts_0 : decode cX2_accepts 0 = .ok (.aload_n 1, 1) := by decide +kernel
theorem dX2_accepts_1 : decode cX2_accepts 1 = .ok (.invokevirtual 7, 3) := by decide +kernel
theorem dX2_accepts_4 : decode cX2_accepts 4 = .ok (.ifCond .eq 21, 3) := by decide +kernel
theorem dX2_accepts_7 : decode cX2_accepts 7 = .ok (.aload_n 1, 1) := by decide +kernel
theorem dX2_accepts_8 : decode cX2_accepts 8 = .ok (.getfield 13, 3) := by decide +kernel
theorem dX2_accepts_11 : decode cX2_accepts 11 = .ok (.aload_n 0, 1) := by decide +kernel
theorem dX2_accepts_12 : decode cX2_accepts 12 = .ok (.getfield 17, 3) := by decide +kernel
theorem dX2_accepts_15 : decode cX2_accepts 15 = .ok (.invokestatic 22, 3) := by decide +kernel
theorem dX2_accepts_18 : decode cX2_accepts 18 = .ok (.ifCond .eq 7, 3) := by decide +kernel
theorem dX2_accepts_21 : decode cX2_accepts 21 = .ok (.iconst 1, 1) := by decide +kernel
theorem dX2_accepts_22 : decode cX2_accepts 22 = .ok (.goto 4, 3) := by decide +kernel
theorem dX2_accepts_25 : decode cX2_accepts 25 = .ok (.iconst 0, 1) := by decide +kernel
theorem dX2_accepts_26 : decode cX2_accepts 26 = .ok (.ireturn, 1) := by decide +kernel
theorem dX3_init_0 : decode cX3_init 0 = .ok (.aload_n 0, 1) := by decide +kernel
theorem dX3_init_1 : decode cX3_init 1 = .ok (.iload_n 1, 1) := by decide +kernel
theorem dX3_init_2 : decode cX3_init 2 = .ok (.iload_n 2, 1) := by decide +kernel
theorem dX3_init_3 : decode cX3_init 3 = .ok (.invokespecial 1, 3) := by decide +kernel
theorem dX3_init_6 : decode cX3_init 6 = .ok (.aload_n 0, 1) := by decide +kernel
theorem dX3_init_7 : decode cX3_init 7 = .ok (.iload_n 2, 1) := by decide +kernel
theorem dX3_init_8 : decode cX3_init 8 = .ok (.newarray .double, 2) := by decide +kernel
theorem dX3_init_10 : decode cX3_init 10 = .ok (.putfield 7, 3) := by decide +kernel
theorem dX3_init_13 : decode cX3_init 13 = .ok (.return_, 1) := by decide +kernel
theorem dX3_read_0 : decode cX3_read 0 = .ok (.aload_n 2, 1) := by decide +kernel
theorem dX3_read_1 : decode cX3_read 1 = .ok (.aload_n 0, 1) := by decide +kernel
theorem dX3_read_2 : decode cX3_read 2 = .ok (.getfield 13, 3) := by decide +kernel
theorem dX3_read_5 : decode cX3_read 5 = .ok (.aload_n 0, 1) := by decide +kernel
theorem dX3_read_6 : decode cX3_read 6 = .ok (.getfield 7, 3) := by decide +kernel
theorem dX3_read_9 : decode cX3_read 9 = .ok (.iload_n 1, 1) := by decide +kernel
theorem dX3_read_10 : decode cX3_read 10 = .ok (.daload, 1) := by decide +kernel
theorem dX3_read_11 : decode cX3_read 11 = .ok (.invokevirtual 17, 3) := by decide +kernel
theorem dX3_read_14 : decode cX3_read 14 = .ok (.return_, 1) := by decide +kernel
theorem dX3_write_0 : decode cX3_write 0 = .ok (.aload_n 0, 1) := by decide +kernel
theorem dX3_write_1 : decode cX3_write 1 = .ok (.getfield 7, 3) := by decide +kernel
theorem dX3_write_4 : decode cX3_write 4 = .ok (.iload_n 1, 1) := by decide +kernel
theorem dX3_write_5 : decode cX3_write 5 = .ok (.aload_n 2, 1) := by decide +kernel
theorem dX3_write_6 : decode cX3_write 6 = .ok (.aload_n 0, 1) := by decide +kernel
theorem dX3_write_7 : decode cX3_write 7 = .ok (.getfield 13, 3) := by decide +kernel
theorem dX3_write_10 : decode cX3_write 10 = .ok (.invokevirtual 23, 3) := by decide +kernel
theorem dX3_write_13 : decode cX3_write 13 = .ok (.dastore, 1) := by decide +kernel
theorem dX3_write_14 : decode cX3_write 14 = .ok (.return_, 1) := by decide +kernel
theorem dX4_init_0 : decode cX4_init 0 = .ok (.aload_n 0, 1) := by decide +kernel
theorem dX4_init_1 : decode cX4_init 1 = .ok (.iload_n 1, 1) := by decide +kernel
theorem dX4_init_2 : decode cX4_init 2 = .ok (.invokespecial 1, 3) := by decide +kernel
theorem dX4_init_5 : decode cX4_init 5 = .ok (.aload_n 0, 1) := by decide +kernel
theorem dX4_init_6 : decode cX4_init 6 = .ok (.iload_n 2, 1) := by decide +kernel
theorem dX4_init_7 : decode cX4_init 7 = .ok (.putfield 7, 3) := by decide +kernel
theorem dX4_init_10 : decode cX4_init 10 = .ok (.return_, 1) := by decide +kernel
theorem dX4_rank_0 : decode cX4_rank 0 = .ok (.aload_n 0, 1) := by decide +kernel
theorem dX4_rank_1 : decode cX4_rank 1 = .ok (.getfield 7, 3) := by decide +kernel
theorem dX4_rank_4 : decode cX4_rank 4 = .ok (.ireturn, 1) := by decide +kernel
theorem dX4_has_0 : decode cX4_has 0 = .ok (.iload_n 1, 1) := by decide +kernel
theorem dX4_has_1 : decode cX4_has 1 = .ok (.ifCond .lt 15, 3) := by decide +kernel
theorem dX4_has_4 : decode cX4_has 4 = .ok (.iload_n 1, 1) := by decide +kernel
theorem dX4_has_5 : decode cX4_has 5 = .ok (.aload_n 0, 1) := by decide +kernel
theorem dX4_has_6 : decode cX4_has 6 = .ok (.getfield 7, 3) := by decide +kernel
theorem dX4_has_9 : decode cX4_has 9 = .ok (.if_icmp .ge 7, 3) := by decide +kernel
theorem dX4_has_12 : decode cX4_has 12 = .ok (.iconst 1, 1) := by decide +kernel
theorem dX4_has_13 : decode cX4_has 13 = .ok (.goto 4, 3) := by decide +kernel
theorem dX4_has_16 : decode cX4_has 16 = .ok (.iconst 0, 1) := by decide +kernel
theorem dX4_has_17 : decode cX4_has 17 = .ok (.ireturn, 1) := by decide +kernel
theorem dX5_init_0 : decode cX5_init 0 = .ok (.aload_n 0, 1) := by decide +kernel
theorem dX5_init_1 : decode cX5_init 1 = .ok (.invokespecial 1, 3) := by decide +kernel
theorem dX5_init_4 : decode cX5_init 4 = .ok (.aload_n 0, 1) := by decide +kernel
theorem dX5_init_5 : decode cX5_init 5 = .ok (.iload_n 1, 1) := by decide +kernel
theorem dX5_init_6 : decode cX5_init 6 = .ok (.putfield 7, 3) := by decide +kernel
theorem dX5_init_9 : decode cX5_init 9 = .ok (.return_, 1) := by decide +kernel
theorem dX6_init_0 : decode cX6_init 0 = .ok (.aload_n 0, 1) := by decide +kernel
theorem dX6_init_1 : decode cX6_init 1 = .ok (.iload_n 1, 1) := by decide +kernel
theorem dX6_init_2 : decode cX6_init 2 = .ok (.iload_n 2, 1) := by decide +kernel
theorem dX6_init_3 : decode cX6_init 3 = .ok (.invokespecial 3, 3) := by decide +kernel
theorem dX6_init_6 : decode cX6_init 6 = .ok (.aload_n 0, 1) := by decide +kernel
theorem dX6_init_7 : decode cX6_init 7 = .ok (.iload_n 2, 1) := by decide +kernel
theorem dX6_init_8 : decode cX6_init 8 = .ok (.anewarray 9, 3) := by decide +kernel
theorem dX6_init_11 : decode cX6_init 11 = .ok (.putfield 11, 3) := by decide +kernel
theorem dX6_init_14 : decode cX6_init 14 = .ok (.return_, 1) := by decide +kernel
theorem dX6_isPlain_0 : decode cX6_isPlain 0 = .ok (.iconst 0, 1) := by decide +kernel
theorem dX6_isPlain_1 : decode cX6_isPlain 1 = .ok (.ireturn, 1) := by decide +kernel
theorem dX6_accepts_0 : decode cX6_accepts 0 = .ok (.aload_n 1, 1) := by decide +kernel
theorem dX6_accepts_1 : decode cX6_accepts 1 = .ok (.invokevirtual 17, 3) := by decide +kernel
theorem dX6_accepts_4 : decode cX6_accepts 4 = .ok (.ifCond .ne 28, 3) := by decide +kernel
theorem dX6_accepts_7 : decode cX6_accepts 7 = .ok (.aload_n 1, 1) := by decide +kernel
theorem dX6_accepts_8 : decode cX6_accepts 8 = .ok (.getfield 23, 3) := by decide +kernel
theorem dX6_accepts_11 : decode cX6_accepts 11 = .ok (.ifnull 17, 3) := by decide +kernel
theorem dX6_accepts_14 : decode cX6_accepts 14 = .ok (.aload_n 0, 1) := by decide +kernel
theorem dX6_accepts_15 : decode cX6_accepts 15 = .ok (.aload_n 1, 1) := by decide +kernel
theorem dX6_accepts_16 : decode cX6_accepts 16 = .ok (.getfield 23, 3) := by decide +kernel
theorem dX6_accepts_19 : decode cX6_accepts 19 = .ok (.getfield 27, 3) := by decide +kernel
theorem dX6_accepts_22 : decode cX6_accepts 22 = .ok (.invokevirtual 31, 3) := by decide +kernel
theorem dX6_accepts_25 : decode cX6_accepts 25 = .ok (.ifCond .eq 7, 3) := by decide +kernel
theorem dX6_accepts_28 : decode cX6_accepts 28 = .ok (.iconst 1, 1) := by decide +kernel
theorem dX6_accepts_29 : decode cX6_accepts 29 = .ok (.goto 4, 3) := by decide +kernel
theorem dX6_accepts_32 : decode cX6_accepts 32 = .ok (.iconst 0, 1) := by decide +kernel
theorem dX6_accepts_33 : decode cX6_accepts 33 = .ok (.ireturn, 1) := by decide +kernel
theorem dX6_fits_0 : decode cX6_fits 0 = .ok (.aload_n 0, 1) := by decide +kernel
theorem dX6_fits_1 : decode cX6_fits 1 = .ok (.getfield 35, 3) := by decide +kernel
theorem dX6_fits_4 : decode cX6_fits 4 = .ok (.bipush 8, 2) := by decide +kernel
theorem dX6_fits_6 : decode cX6_fits 6 = .ok (.if_icmp .ne 15, 3) := by decide +kernel
theorem dX6_fits_9 : decode cX6_fits 9 = .ok (.iload_n 1, 1) := by decide +kernel
theorem dX6_fits_10 : decode cX6_fits 10 = .ok (.bipush 12, 2) := by decide +kernel
theorem dX6_fits_12 : decode cX6_fits 12 = .ok (.if_icmp .lt 7, 3) := by decide +kernel
theorem dX6_fits_15 : decode cX6_fits 15 = .ok (.iconst 1, 1) := by decide +kernel
theorem dX6_fits_16 : decode cX6_fits 16 = .ok (.goto 4, 3) := by decide +kernel
theorem dX6_fits_19 : decode cX6_fits 19 = .ok (.iconst 0, 1) := by decide +kernel
theorem dX6_fits_20 : decode cX6_fits 20 = .ok (.ireturn, 1) := by decide +kernel
theorem dX6_fits_21 : decode cX6_fits 21 = .ok (.aload_n 0, 1) := by decide +kernel
theorem dX6_fits_22 : decode cX6_fits 22 = .ok (.getfield 35, 3) := by decide +kernel
theorem dX6_fits_25 : decode cX6_fits 25 = .ok (.bipush 9, 2) := by decide +kernel
theorem dX6_fits_27 : decode cX6_fits 27 = .ok (.if_icmp .ne 15, 3) := by decide +kernel
theorem dX6_fits_30 : decode cX6_fits 30 = .ok (.iload_n 1, 1) := by decide +kernel
theorem dX6_fits_31 : decode cX6_fits 31 = .ok (.bipush 14, 2) := by decide +kernel
theorem dX6_fits_33 : decode cX6_fits 33 = .ok (.if_icmp .ne 7, 3) := by decide +kernel
theorem dX6_fits_36 : decode cX6_fits 36 = .ok (.iconst 1, 1) := by decide +kernel
theorem dX6_fits_37 : decode cX6_fits 37 = .ok (.goto 4, 3) := by decide +kernel
theorem dX6_fits_40 : decode cX6_fits 40 = .ok (.iconst 0, 1) := by decide +kernel
theorem dX6_fits_41 : decode cX6_fits 41 = .ok (.ireturn, 1) := by decide +kernel
theorem dX6_fits_42 : decode cX6_fits 42 = .ok (.aload_n 0, 1) := by decide +kernel
theorem dX6_fits_43 : decode cX6_fits 43 = .ok (.getfield 35, 3) := by decide +kernel
theorem dX6_fits_46 : decode cX6_fits 46 = .ok (.bipush 10, 2) := by decide +kernel
theorem dX6_fits_48 : decode cX6_fits 48 = .ok (.if_icmp .ne 14, 3) := by decide +kernel
theorem dX6_fits_51 : decode cX6_fits 51 = .ok (.iload_n 1, 1) := by decide +kernel
theorem dX6_fits_52 : decode cX6_fits 52 = .ok (.iconst 4, 1) := by decide +kernel
theorem dX6_fits_53 : decode cX6_fits 53 = .ok (.if_icmp .ne 7, 3) := by decide +kernel
theorem dX6_fits_56 : decode cX6_fits 56 = .ok (.iconst 1, 1) := by decide +kernel
theorem dX6_fits_57 : decode cX6_fits 57 = .ok (.goto 4, 3) := by decide +kernel
theorem dX6_fits_60 : decode cX6_fits 60 = .ok (.iconst 0, 1) := by decide +kernel
theorem dX6_fits_61 : decode cX6_fits 61 = .ok (.ireturn, 1) := by decide +kernel
theorem dX6_fits_62 : decode cX6_fits 62 = .ok (.iload_n 1, 1) := by decide +kernel
theorem dX6_fits_63 : decode cX6_fits 63 = .ok (.bipush 8, 2) := by decide +kernel
theorem dX6_fits_65 : decode cX6_fits 65 = .ok (.if_icmp .eq 9, 3) := by decide +kernel
theorem dX6_fits_68 : decode cX6_fits 68 = .ok (.iload_n 1, 1) := by decide +kernel
theorem dX6_fits_69 : decode cX6_fits 69 = .ok (.bipush 9, 2) := by decide +kernel
theorem dX6_fits_71 : decode cX6_fits 71 = .ok (.if_icmp .ne 7, 3) := by decide +kernel
theorem dX6_fits_74 : decode cX6_fits 74 = .ok (.iconst 1, 1) := by decide +kernel
theorem dX6_fits_75 : decode cX6_fits 75 = .ok (.goto 4, 3) := by decide +kernel
theorem dX6_fits_78 : decode cX6_fits 78 = .ok (.iconst 0, 1) := by decide +kernel
theorem dX6_fits_79 : decode cX6_fits 79 = .ok (.ireturn, 1) := by decide +kernel
theorem dX6_read_0 : decode cX6_read 0 = .ok (.aload_n 2, 1) := by decide +kernel
theorem dX6_read_1 : decode cX6_read 1 = .ok (.aload_n 0, 1) := by decide +kernel
theorem dX6_read_2 : decode cX6_read 2 = .ok (.getfield 11, 3) := by decide +kernel
theorem dX6_read_5 : decode cX6_read 5 = .ok (.iload_n 1, 1) := by decide +kernel
theorem dX6_read_6 : decode cX6_read 6 = .ok (.aaload, 1) := by decide +kernel
theorem dX6_read_7 : decode cX6_read 7 = .ok (.invokevirtual 36, 3) := by decide +kernel
theorem dX6_read_10 : decode cX6_read 10 = .ok (.return_, 1) := by decide +kernel
theorem dX6_write_0 : decode cX6_write 0 = .ok (.aload_n 0, 1) := by decide +kernel
theorem dX6_write_1 : decode cX6_write 1 = .ok (.getfield 11, 3) := by decide +kernel
theorem dX6_write_4 : decode cX6_write 4 = .ok (.iload_n 1, 1) := by decide +kernel
theorem dX6_write_5 : decode cX6_write 5 = .ok (.aload_n 2, 1) := by decide +kernel
theorem dX6_write_6 : decode cX6_write 6 = .ok (.getfield 23, 3) := by decide +kernel
theorem dX6_write_9 : decode cX6_write 9 = .ok (.aastore, 1) := by decide +kernel
theorem dX6_write_10 : decode cX6_write 10 = .ok (.return_, 1) := by decide +kernel
theorem dX7_init_0 : decode cX7_init 0 = .ok (.aload_n 0, 1) := by decide +kernel
theorem dX7_init_1 : decode cX7_init 1 = .ok (.iload_n 1, 1) := by decide +kernel
theorem dX7_init_2 : decode cX7_init 2 = .ok (.iload_n 2, 1) := by decide +kernel
theorem dX7_init_3 : decode cX7_init 3 = .ok (.invokespecial 1, 3) := by decide +kernel
theorem dX7_init_6 : decode cX7_init 6 = .ok (.aload_n 0, 1) := by decide +kernel
theorem dX7_init_7 : decode cX7_init 7 = .ok (.iload_n 2, 1) := by decide +kernel
theorem dX7_init_8 : decode cX7_init 8 = .ok (.newarray .long, 2) := by decide +kernel
theorem dX7_init_10 : decode cX7_init 10 = .ok (.putfield 7, 3) := by decide +kernel
theorem dX7_init_13 : decode cX7_init 13 = .ok (.return_, 1) := by decide +kernel
theorem dX7_read_0 : decode cX7_read 0 = .ok (.aload_n 2, 1) := by decide +kernel
theorem dX7_read_1 : decode cX7_read 1 = .ok (.aload_n 0, 1) := by decide +kernel
theorem dX7_read_2 : decode cX7_read 2 = .ok (.getfield 13, 3) := by decide +kernel
theorem dX7_read_5 : decode cX7_read 5 = .ok (.aload_n 0, 1) := by decide +kernel
theorem dX7_read_6 : decode cX7_read 6 = .ok (.getfield 7, 3) := by decide +kernel
theorem dX7_read_9 : decode cX7_read 9 = .ok (.iload_n 1, 1) := by decide +kernel
theorem dX7_read_10 : decode cX7_read 10 = .ok (.laload, 1) := by decide +kernel
theorem dX7_read_11 : decode cX7_read 11 = .ok (.invokevirtual 17, 3) := by decide +kernel
theorem dX7_read_14 : decode cX7_read 14 = .ok (.return_, 1) := by decide +kernel
theorem dX7_write_0 : decode cX7_write 0 = .ok (.aload_n 0, 1) := by decide +kernel
theorem dX7_write_1 : decode cX7_write 1 = .ok (.getfield 7, 3) := by decide +kernel
theorem dX7_write_4 : decode cX7_write 4 = .ok (.iload_n 1, 1) := by decide +kernel
theorem dX7_write_5 : decode cX7_write 5 = .ok (.aload_n 2, 1) := by decide +kernel
theorem dX7_write_6 : decode cX7_write 6 = .ok (.getfield 23, 3) := by decide +kernel
theorem dX7_write_9 : decode cX7_write 9 = .ok (.lastore, 1) := by decide +kernel
theorem dX7_write_10 : decode cX7_write 10 = .ok (.return_, 1) := by decide +kernel
theorem dJ9_floorMod_7cf53_0 : decode cJ9_floorMod_7cf53 0 = .ok (.iload_n 0, 1) := by decide +kernel
theorem dJ9_floorMod_7cf53_1 : decode cJ9_floorMod_7cf53 1 = .ok (.iload_n 1, 1) := by decide +kernel
theorem dJ9_floorMod_7cf53_2 : decode cJ9_floorMod_7cf53 2 = .ok (.irem, 1) := by decide +kernel
theorem dJ9_floorMod_7cf53_3 : decode cJ9_floorMod_7cf53 3 = .ok (.istore_n 2, 1) := by decide +kernel
theorem dJ9_floorMod_7cf53_4 : decode cJ9_floorMod_7cf53 4 = .ok (.iload_n 0, 1) := by decide +kernel
theorem dJ9_floorMod_7cf53_5 : decode cJ9_floorMod_7cf53 5 = .ok (.iload_n 1, 1) := by decide +kernel
theorem dJ9_floorMod_7cf53_6 : decode cJ9_floorMod_7cf53 6 = .ok (.ixor, 1) := by decide +kernel
theorem dJ9_floorMod_7cf53_7 : decode cJ9_floorMod_7cf53 7 = .ok (.ifCond .ge 11, 3) := by decide +kernel
theorem dJ9_floorMod_7cf53_10 : decode cJ9_floorMod_7cf53 10 = .ok (.iload_n 2, 1) := by decide +kernel
theorem dJ9_floorMod_7cf53_11 : decode cJ9_floorMod_7cf53 11 = .ok (.ifCond .eq 7, 3) := by decide +kernel
theorem dJ9_floorMod_7cf53_14 : decode cJ9_floorMod_7cf53 14 = .ok (.iload_n 2, 1) := by decide +kernel
theorem dJ9_floorMod_7cf53_15 : decode cJ9_floorMod_7cf53 15 = .ok (.iload_n 1, 1) := by decide +kernel
theorem dJ9_floorMod_7cf53_16 : decode cJ9_floorMod_7cf53 16 = .ok (.iadd, 1) := by decide +kernel
theorem dJ9_floorMod_7cf53_17 : decode cJ9_floorMod_7cf53 17 = .ok (.ireturn, 1) := by decide +kernel
theorem dJ9_floorMod_7cf53_18 : decode cJ9_floorMod_7cf53 18 = .ok (.iload_n 2, 1) := by decide +kernel
theorem dJ9_floorMod_7cf53_19 : decode cJ9_floorMod_7cf53 19 = .ok (.ireturn, 1) := by decide +kernel
theorem dJ9_max_7cf53_0 : decode cJ9_max_7cf53 0 = .ok (.iload_n 0, 1) := by decide +kernel
theorem dJ9_max_7cf53_1 : decode cJ9_max_7cf53 1 = .ok (.iload_n 1, 1) := by decide +kernel
theorem dJ9_max_7cf53_2 : decode cJ9_max_7cf53 2 = .ok (.if_icmp .lt 7, 3) := by decide +kernel
theorem dJ9_max_7cf53_5 : decode cJ9_max_7cf53 5 = .ok (.iload_n 0, 1) := by decide +kernel
theorem dJ9_max_7cf53_6 : decode cJ9_max_7cf53 6 = .ok (.goto 4, 3) := by decide +kernel
theorem dJ9_max_7cf53_9 : decode cJ9_max_7cf53 9 = .ok (.iload_n 1, 1) := by decide +kernel
theorem dJ9_max_7cf53_10 : decode cJ9_max_7cf53 10 = .ok (.ireturn, 1) := by decide +kernel
