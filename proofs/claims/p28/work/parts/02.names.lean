/-! names: classes, fields, methods, decode rows, as printed for this claim -/
def RX0 : String := "ShadedBooks$1"
def TX0 : u_T := fun k => match k with
  | _ => ("", "", "", false)
def tyX0 : Nat → FieldType := fun k => match k with
  | _ => .int
abbrev wsX00 : List Cond := u_ws RX0 TX0 0
theorem nmX0 : ∀ a, a < 0 → ∀ b, b < 0 → a ≠ b → (TX0 a).2.1 ≠ (TX0 b).2.1 := by decide +kernel
theorem tyX0_ok : ∀ k, k < 0 → parseFieldDescriptor (TX0 k).2.2.1 = some (tyX0 k) := by decide +kernel
def RX1 : String := "ShadedBooks$Auction"
def TX1 : u_T := fun k => match k with
  | 0 => ("ShadedBooks$Auction", "traders", "LShadedBooks$Traders;", true)
  | 1 => ("ShadedBooks$Auction", "orders", "LShadedBooks$Orders;", true)
  | 2 => ("ShadedBooks$Auction", "trades", "LShadedBooks$Trades;", true)
  | 3 => ("ShadedBooks$Auction", "split", "I", false)
  | 4 => ("ShadedBooks$Auction", "life", "I", false)
  | 5 => ("ShadedBooks$Auction", "round", "I", false)
  | 6 => ("ShadedBooks$Auction", "placed", "I", false)
  | 7 => ("ShadedBooks$Auction", "traded", "I", false)
  | 8 => ("ShadedBooks$Auction", "surplus", "I", false)
  | 9 => ("ShadedBooks$Auction", "lastPrice", "I", false)
  | _ => ("ShadedBooks$Auction", "expired", "I", false)
def tyX1 : Nat → FieldType := fun k => match k with
  | 0 => .object "ShadedBooks$Traders"
  | 1 => .object "ShadedBooks$Orders"
  | 2 => .object "ShadedBooks$Trades"
  | 3 => .int
  | 4 => .int
  | 5 => .int
  | 6 => .int
  | 7 => .int
  | 8 => .int
  | 9 => .int
  | _ => .int
abbrev wsX10 : List Cond := u_ws RX1 TX1 11
theorem nmX1 : ∀ a, a < 11 → ∀ b, b < 11 → a ≠ b → (TX1 a).2.1 ≠ (TX1 b).2.1 := by decide +kernel
theorem tyX1_ok : ∀ k, k < 11 → parseFieldDescriptor (TX1 k).2.2.1 = some (tyX1 k) := by decide +kernel
abbrev cX1_init : ByteArray := prog_3_method_1_code
def yX1_init : MethodName := ⟨RX1, "<init>", "()V"⟩
abbrev cX1_faultOfJoin : ByteArray := prog_3_method_2_code
def yX1_faultOfJoin : MethodName := ⟨RX1, "faultOfJoin", "(II)I"⟩
abbrev cX1_faultOfValue : ByteArray := prog_3_method_3_code
def yX1_faultOfValue : MethodName := ⟨RX1, "faultOfValue", "(II)I"⟩
abbrev cX1_faultOfShade : ByteArray := prog_3_method_4_code
def yX1_faultOfShade : MethodName := ⟨RX1, "faultOfShade", "(III)I"⟩
abbrev cX1_faultOfSetting : ByteArray := prog_3_method_5_code
def yX1_faultOfSetting : MethodName := ⟨RX1, "faultOfSetting", "(II)I"⟩
abbrev cX1_faultOfBid : ByteArray := prog_3_method_6_code
def yX1_faultOfBid : MethodName := ⟨RX1, "faultOfBid", "(II)I"⟩
abbrev cX1_faultOfOrder : ByteArray := prog_3_method_7_code
def yX1_faultOfOrder : MethodName := ⟨RX1, "faultOfOrder", "(III)I"⟩
abbrev cX1_faultOfRound : ByteArray := prog_3_method_8_code
def yX1_faultOfRound : MethodName := ⟨RX1, "faultOfRound", "()I"⟩
abbrev cX1_change : ByteArray := prog_3_method_9_code
def yX1_change : MethodName := ⟨RX1, "change", "(II)I"⟩
abbrev cX1_place : ByteArray := prog_3_method_10_code
def yX1_place : MethodName := ⟨RX1, "place", "(III)I"⟩
abbrev cX1_endRound : ByteArray := prog_3_method_11_code
def yX1_endRound : MethodName := ⟨RX1, "endRound", "(LShadedBooks$Clearing;)I"⟩
abbrev cX1_traderValue : ByteArray := prog_3_method_12_code
def yX1_traderValue : MethodName := ⟨RX1, "traderValue", "(II)I"⟩
abbrev cX1_wholeValue : ByteArray := prog_3_method_13_code
def yX1_wholeValue : MethodName := ⟨RX1, "wholeValue", "(I)I"⟩
abbrev cX1_copyFrom : ByteArray := prog_3_method_14_code
def yX1_copyFrom : MethodName := ⟨RX1, "copyFrom", "(LShadedBooks$Auction;)V"⟩
def RX2 : String := "ShadedBooks$Clearing"
def TX2 : u_T := fun k => match k with
  | 0 => ("ShadedBooks$Clearing", "lowest", "I", false)
  | 1 => ("ShadedBooks$Clearing", "highest", "I", false)
  | 2 => ("ShadedBooks$Clearing", "price", "I", false)
  | 3 => ("ShadedBooks$Clearing", "volume", "I", false)
  | 4 => ("ShadedBooks$Clearing", "surplus", "I", false)
  | 5 => ("ShadedBooks$Clearing", "taken", "LShadedBooks$Row;", true)
  | 6 => ("ShadedBooks$Clearing", "buys", "LShadedBooks$Row;", true)
  | 7 => ("ShadedBooks$Clearing", "sells", "LShadedBooks$Row;", true)
  | 8 => ("ShadedBooks$Clearing", "buyCount", "I", false)
  | 9 => ("ShadedBooks$Clearing", "sellCount", "I", false)
  | 10 => ("ShadedBooks$Clearing", "wanted", "LShadedBooks$Row;", true)
  | _ => ("ShadedBooks$Clearing", "offered", "LShadedBooks$Row;", true)
def tyX2 : Nat → FieldType := fun k => match k with
  | 0 => .int
  | 1 => .int
  | 2 => .int
  | 3 => .int
  | 4 => .int
  | 5 => .object "ShadedBooks$Row"
  | 6 => .object "ShadedBooks$Row"
  | 7 => .object "ShadedBooks$Row"
  | 8 => .int
  | 9 => .int
  | 10 => .object "ShadedBooks$Row"
  | _ => .object "ShadedBooks$Row"
abbrev wsX20 : List Cond := u_ws RX2 TX2 12
theorem nmX2 : ∀ a, a < 12 → ∀ b, b < 12 → a ≠ b → (TX2 a).2.1 ≠ (TX2 b).2.1 := by decide +kernel
theorem tyX2_ok : ∀ k, k < 12 → parseFieldDescriptor (TX2 k).2.2.1 = some (tyX2 k) := by decide +kernel
abbrev cX2_init : ByteArray := prog_4_method_1_code
def yX2_init : MethodName := ⟨RX2, "<init>", "()V"⟩
abbrev cX2_settle : ByteArray := prog_4_method_2_code
def yX2_settle : MethodName := ⟨RX2, "settle", "(LShadedBooks$Auction;)V"⟩
abbrev cX2_priceWith : ByteArray := prog_4_method_3_code
def yX2_priceWith : MethodName := ⟨RX2, "priceWith", "(I)I"⟩
abbrev cX2_valueOf : ByteArray := prog_4_method_4_code
def yX2_valueOf : MethodName := ⟨RX2, "valueOf", "(LShadedBooks$Auction;I)I"⟩
abbrev cX2_reasonOf : ByteArray := prog_4_method_5_code
def yX2_reasonOf : MethodName := ⟨RX2, "reasonOf", "(LShadedBooks$Orders;I)I"⟩
abbrev cX2_takenOf : ByteArray := prog_4_method_6_code
def yX2_takenOf : MethodName := ⟨RX2, "takenOf", "(LShadedBooks$Orders;I)I"⟩
abbrev cX2_gainOf : ByteArray := prog_4_method_7_code
def yX2_gainOf : MethodName := ⟨RX2, "gainOf", "(LShadedBooks$Auction;II)I"⟩
abbrev cX2_pairOff : ByteArray := prog_4_method_8_code
def yX2_pairOff : MethodName := ⟨RX2, "pairOff", "(LShadedBooks$Orders;LShadedBooks$Trades;)V"⟩
abbrev cX2_queueUp : ByteArray := prog_4_method_9_code
def yX2_queueUp : MethodName := ⟨RX2, "queueUp", "(LShadedBooks$Row;LShadedBooks$Orders;I)I"⟩
abbrev cX2_findRange : ByteArray := prog_4_method_10_code
def yX2_findRange : MethodName := ⟨RX2, "findRange", "(LShadedBooks$Orders;)V"⟩
abbrev cX2_tallyPrices : ByteArray := prog_4_method_11_code
def yX2_tallyPrices : MethodName := ⟨RX2, "tallyPrices", "(LShadedBooks$Orders;)I"⟩
abbrev cX2_take : ByteArray := prog_4_method_12_code
def yX2_take : MethodName := ⟨RX2, "take", "(LShadedBooks$Row;ILShadedBooks$Orders;)V"⟩
abbrev cX2_sumSurplus : ByteArray := prog_4_method_13_code
def yX2_sumSurplus : MethodName := ⟨RX2, "sumSurplus", "(LShadedBooks$Auction;)I"⟩
abbrev cX2_findGreatest : ByteArray := prog_4_method_14_code
def yX2_findGreatest : MethodName := ⟨RX2, "findGreatest", "(LShadedBooks$Auction;)I"⟩
abbrev cX2_tallyValues : ByteArray := prog_4_method_15_code
def yX2_tallyValues : MethodName := ⟨RX2, "tallyValues", "(LShadedBooks$Auction;)V"⟩
abbrev cX2_hundredthsOf : ByteArray := prog_4_method_16_code
def yX2_hundredthsOf : MethodName := ⟨RX2, "hundredthsOf", "(I)I"⟩
def RX3 : String := "ShadedBooks$CommandText"
def TX3 : u_T := fun k => match k with
  | 0 => ("ShadedBooks$CommandText", "length", "I", false)
  | 1 => ("ShadedBooks$CommandText", "word", "LShadedBooks$Word;", false)
  | 2 => ("ShadedBooks$CommandText", "numbers", "LShadedBooks$Row;", true)
  | 3 => ("ShadedBooks$CommandText", "bytes", "LShadedBooks$Row;", true)
  | 4 => ("ShadedBooks$CommandText", "cursor", "I", false)
  | _ => ("ShadedBooks$CommandText", "fault", "I", false)
def tyX3 : Nat → FieldType := fun k => match k with
  | 0 => .int
  | 1 => .object "ShadedBooks$Word"
  | 2 => .object "ShadedBooks$Row"
  | 3 => .object "ShadedBooks$Row"
  | 4 => .int
  | _ => .int
abbrev wsX30 : List Cond := u_ws RX3 TX3 6
theorem nmX3 : ∀ a, a < 6 → ∀ b, b < 6 → a ≠ b → (TX3 a).2.1 ≠ (TX3 b).2.1 := by decide +kernel
theorem tyX3_ok : ∀ k, k < 6 → parseFieldDescriptor (TX3 k).2.2.1 = some (tyX3 k) := by decide +kernel
abbrev cX3_init : ByteArray := prog_5_method_1_code
def yX3_init : MethodName := ⟨RX3, "<init>", "()V"⟩
def RX4 : String := "ShadedBooks$Orders"
def TX4 : u_T := fun k => match k with
  | 0 => ("ShadedBooks$Orders", "count", "I", false)
  | 1 => ("ShadedBooks$Orders", "number", "LShadedBooks$Row;", true)
  | 2 => ("ShadedBooks$Orders", "trader", "LShadedBooks$Row;", true)
  | 3 => ("ShadedBooks$Orders", "side", "LShadedBooks$Row;", true)
  | 4 => ("ShadedBooks$Orders", "price", "LShadedBooks$Row;", true)
  | 5 => ("ShadedBooks$Orders", "units", "LShadedBooks$Row;", true)
  | _ => ("ShadedBooks$Orders", "round", "LShadedBooks$Row;", true)
def tyX4 : Nat → FieldType := fun k => match k with
  | 0 => .int
  | 1 => .object "ShadedBooks$Row"
  | 2 => .object "ShadedBooks$Row"
  | 3 => .object "ShadedBooks$Row"
  | 4 => .object "ShadedBooks$Row"
  | 5 => .object "ShadedBooks$Row"
  | _ => .object "ShadedBooks$Row"
abbrev wsX40 : List Cond := u_ws RX4 TX4 7
theorem nmX4 : ∀ a, a < 7 → ∀ b, b < 7 → a ≠ b → (TX4 a).2.1 ≠ (TX4 b).2.1 := by decide +kernel
theorem tyX4_ok : ∀ k, k < 7 → parseFieldDescriptor (TX4 k).2.2.1 = some (tyX4 k) := by decide +kernel
abbrev cX4_init : ByteArray := prog_6_method_1_code
def yX4_init : MethodName := ⟨RX4, "<init>", "()V"⟩
abbrev cX4_isFull : ByteArray := prog_6_method_2_code
def yX4_isFull : MethodName := ⟨RX4, "isFull", "()Z"⟩
abbrev cX4_indexOf : ByteArray := prog_6_method_3_code
def yX4_indexOf : MethodName := ⟨RX4, "indexOf", "(I)I"⟩
abbrev cX4_faultOfNumber : ByteArray := prog_6_method_4_code
def yX4_faultOfNumber : MethodName := ⟨RX4, "faultOfNumber", "(I)I"⟩
abbrev cX4_append : ByteArray := prog_6_method_5_code
def yX4_append : MethodName := ⟨RX4, "append", "(IIIIII)V"⟩
abbrev cX4_withdraw : ByteArray := prog_6_method_6_code
def yX4_withdraw : MethodName := ⟨RX4, "withdraw", "(I)I"⟩
abbrev cX4_removeAt : ByteArray := prog_6_method_7_code
def yX4_removeAt : MethodName := ⟨RX4, "removeAt", "(I)V"⟩
abbrev cX4_isAhead : ByteArray := prog_6_method_8_code
def yX4_isAhead : MethodName := ⟨RX4, "isAhead", "(II)Z"⟩
abbrev cX4_placeOf : ByteArray := prog_6_method_9_code
def yX4_placeOf : MethodName := ⟨RX4, "placeOf", "(I)I"⟩
abbrev cX4_accepts : ByteArray := prog_6_method_10_code
def yX4_accepts : MethodName := ⟨RX4, "accepts", "(II)Z"⟩
abbrev cX4_countOf : ByteArray := prog_6_method_13_code
def yX4_countOf : MethodName := ⟨RX4, "countOf", "(I)I"⟩
abbrev cX4_unitsOf : ByteArray := prog_6_method_14_code
def yX4_unitsOf : MethodName := ⟨RX4, "unitsOf", "(I)I"⟩
abbrev cX4_valueOf : ByteArray := prog_6_method_15_code
def yX4_valueOf : MethodName := ⟨RX4, "valueOf", "(II)I"⟩
abbrev cX4_removeEmpty : ByteArray := prog_6_method_16_code
def yX4_removeEmpty : MethodName := ⟨RX4, "removeEmpty", "()V"⟩
abbrev cX4_removeUpTo : ByteArray := prog_6_method_17_code
def yX4_removeUpTo : MethodName := ⟨RX4, "removeUpTo", "(I)I"⟩
abbrev cX4_copyFrom : ByteArray := prog_6_method_18_code
def yX4_copyFrom : MethodName := ⟨RX4, "copyFrom", "(LShadedBooks$Orders;)V"⟩
def RX5 : String := "ShadedBooks$Row"
def TX5 : u_T := fun k => match k with
  | _ => ("ShadedBooks$Row", "cells", "[I", true)
def tyX5 : Nat → FieldType := fun k => match k with
  | _ => .array .int
abbrev wsX50 : List Cond := u_ws RX5 TX5 1
theorem nmX5 : ∀ a, a < 1 → ∀ b, b < 1 → a ≠ b → (TX5 a).2.1 ≠ (TX5 b).2.1 := by decide +kernel
theorem tyX5_ok : ∀ k, k < 1 → parseFieldDescriptor (TX5 k).2.2.1 = some (tyX5 k) := by decide +kernel
abbrev cX5_init : ByteArray := prog_7_method_1_code
def yX5_init : MethodName := ⟨RX5, "<init>", "(I)V"⟩
abbrev cX5_get : ByteArray := prog_7_method_2_code
def yX5_get : MethodName := ⟨RX5, "get", "(I)I"⟩
abbrev cX5_put : ByteArray := prog_7_method_3_code
def yX5_put : MethodName := ⟨RX5, "put", "(II)V"⟩
abbrev cX5_add : ByteArray := prog_7_method_4_code
def yX5_add : MethodName := ⟨RX5, "add", "(II)V"⟩
abbrev cX5_fillWithZeros : ByteArray := prog_7_method_5_code
def yX5_fillWithZeros : MethodName := ⟨RX5, "fillWithZeros", "()V"⟩
abbrev cX5_removeAt : ByteArray := prog_7_method_6_code
def yX5_removeAt : MethodName := ⟨RX5, "removeAt", "(I)V"⟩
abbrev cX5_copyFrom : ByteArray := prog_7_method_7_code
def yX5_copyFrom : MethodName := ⟨RX5, "copyFrom", "(LShadedBooks$Row;)V"⟩
def RX6 : String := "ShadedBooks$Traders"
def TX6 : u_T := fun k => match k with
  | 0 => ("ShadedBooks$Traders", "count", "I", false)
  | 1 => ("ShadedBooks$Traders", "side", "LShadedBooks$Row;", true)
  | 2 => ("ShadedBooks$Traders", "value", "LShadedBooks$Row;", true)
  | 3 => ("ShadedBooks$Traders", "kind", "LShadedBooks$Row;", true)
  | 4 => ("ShadedBooks$Traders", "amount", "LShadedBooks$Row;", true)
  | 5 => ("ShadedBooks$Traders", "traded", "LShadedBooks$Row;", true)
  | 6 => ("ShadedBooks$Traders", "gains", "LShadedBooks$Row;", true)
  | _ => ("ShadedBooks$Traders", "money", "LShadedBooks$Row;", true)
def tyX6 : Nat → FieldType := fun k => match k with
  | 0 => .int
  | 1 => .object "ShadedBooks$Row"
  | 2 => .object "ShadedBooks$Row"
  | 3 => .object "ShadedBooks$Row"
  | 4 => .object "ShadedBooks$Row"
  | 5 => .object "ShadedBooks$Row"
  | 6 => .object "ShadedBooks$Row"
  | _ => .object "ShadedBooks$Row"
abbrev wsX60 : List Cond := u_ws RX6 TX6 8
theorem nmX6 : ∀ a, a < 8 → ∀ b, b < 8 → a ≠ b → (TX6 a).2.1 ≠ (TX6 b).2.1 := by decide +kernel
theorem tyX6_ok : ∀ k, k < 8 → parseFieldDescriptor (TX6 k).2.2.1 = some (tyX6 k) := by decide +kernel
abbrev cX6_init : ByteArray := prog_8_method_1_code
def yX6_init : MethodName := ⟨RX6, "<init>", "()V"⟩
abbrev cX6_has : ByteArray := prog_8_method_2_code
def yX6_has : MethodName := ⟨RX6, "has", "(I)Z"⟩
abbrev cX6_faultOfNumber : ByteArray := prog_8_method_3_code
def yX6_faultOfNumber : MethodName := ⟨RX6, "faultOfNumber", "(I)I"⟩
abbrev cX6_join : ByteArray := prog_8_method_4_code
def yX6_join : MethodName := ⟨RX6, "join", "(II)I"⟩
abbrev cX6_shadeBy : ByteArray := prog_8_method_5_code
def yX6_shadeBy : MethodName := ⟨RX6, "shadeBy", "(III)V"⟩
abbrev cX6_bidOf : ByteArray := prog_8_method_6_code
def yX6_bidOf : MethodName := ⟨RX6, "bidOf", "(I)I"⟩
abbrev cX6_bidWith : ByteArray := prog_8_method_7_code
def yX6_bidWith : MethodName := ⟨RX6, "bidWith", "(II)I"⟩
abbrev cX6_gainPerUnit : ByteArray := prog_8_method_8_code
def yX6_gainPerUnit : MethodName := ⟨RX6, "gainPerUnit", "(II)I"⟩
abbrev cX6_book : ByteArray := prog_8_method_9_code
def yX6_book : MethodName := ⟨RX6, "book", "(III)V"⟩
abbrev cX6_learn : ByteArray := prog_8_method_10_code
def yX6_learn : MethodName := ⟨RX6, "learn", "(III)V"⟩
abbrev cX6_copyFrom : ByteArray := prog_8_method_11_code
def yX6_copyFrom : MethodName := ⟨RX6, "copyFrom", "(LShadedBooks$Traders;)V"⟩
abbrev cX6_shadeOf : ByteArray := prog_8_method_12_code
def yX6_shadeOf : MethodName := ⟨RX6, "shadeOf", "(I)I"⟩
def RX7 : String := "ShadedBooks$Trades"
def TX7 : u_T := fun k => match k with
  | 0 => ("ShadedBooks$Trades", "count", "I", false)
  | 1 => ("ShadedBooks$Trades", "bought", "LShadedBooks$Row;", true)
  | 2 => ("ShadedBooks$Trades", "sold", "LShadedBooks$Row;", true)
  | 3 => ("ShadedBooks$Trades", "units", "LShadedBooks$Row;", true)
  | 4 => ("ShadedBooks$Trades", "buyer", "LShadedBooks$Row;", true)
  | _ => ("ShadedBooks$Trades", "seller", "LShadedBooks$Row;", true)
def tyX7 : Nat → FieldType := fun k => match k with
  | 0 => .int
  | 1 => .object "ShadedBooks$Row"
  | 2 => .object "ShadedBooks$Row"
  | 3 => .object "ShadedBooks$Row"
  | 4 => .object "ShadedBooks$Row"
  | _ => .object "ShadedBooks$Row"
abbrev wsX70 : List Cond := u_ws RX7 TX7 6
theorem nmX7 : ∀ a, a < 6 → ∀ b, b < 6 → a ≠ b → (TX7 a).2.1 ≠ (TX7 b).2.1 := by decide +kernel
theorem tyX7_ok : ∀ k, k < 6 → parseFieldDescriptor (TX7 k).2.2.1 = some (tyX7 k) := by decide +kernel
abbrev cX7_init : ByteArray := prog_9_method_1_code
def yX7_init : MethodName := ⟨RX7, "<init>", "()V"⟩
abbrev cX7_append : ByteArray := prog_9_method_2_code
def yX7_append : MethodName := ⟨RX7, "append", "(LShadedBooks$Orders;III)V"⟩
abbrev cX7_valueOf : ByteArray := prog_9_method_3_code
def yX7_valueOf : MethodName := ⟨RX7, "valueOf", "(II)I"⟩
abbrev cX7_copyFrom : ByteArray := prog_9_method_4_code
def yX7_copyFrom : MethodName := ⟨RX7, "copyFrom", "(LShadedBooks$Trades;)V"⟩
def RX8 : String := "ShadedBooks$UndoStack"
def TX8 : u_T := fun k => match k with
  | 0 => ("ShadedBooks$UndoStack", "count", "I", false)
  | 1 => ("ShadedBooks$UndoStack", "oldest", "I", false)
  | _ => ("ShadedBooks$UndoStack", "states", "[LShadedBooks$Auction;", true)
def tyX8 : Nat → FieldType := fun k => match k with
  | 0 => .int
  | 1 => .int
  | _ => .array (.object "ShadedBooks$Auction")
abbrev wsX80 : List Cond := u_ws RX8 TX8 3
theorem nmX8 : ∀ a, a < 3 → ∀ b, b < 3 → a ≠ b → (TX8 a).2.1 ≠ (TX8 b).2.1 := by decide +kernel
theorem tyX8_ok : ∀ k, k < 3 → parseFieldDescriptor (TX8 k).2.2.1 = some (tyX8 k) := by decide +kernel
abbrev cX8_init : ByteArray := prog_10_method_1_code
def yX8_init : MethodName := ⟨RX8, "<init>", "()V"⟩
abbrev cX8_push : ByteArray := prog_10_method_2_code
def yX8_push : MethodName := ⟨RX8, "push", "(LShadedBooks$Auction;)V"⟩
abbrev cX8_pop : ByteArray := prog_10_method_3_code
def yX8_pop : MethodName := ⟨RX8, "pop", "(LShadedBooks$Auction;)V"⟩
abbrev cX8_placeOf : ByteArray := prog_10_method_4_code
def yX8_placeOf : MethodName := ⟨RX8, "placeOf", "(I)LShadedBooks$Auction;"⟩
def RX9 : String := "ShadedBooks$Word"
def TX9 : u_T := fun k => match k with
  | _ => ("", "", "", false)
def tyX9 : Nat → FieldType := fun k => match k with
  | _ => .int
abbrev wsX90 : List Cond := u_ws RX9 TX9 0
theorem nmX9 : ∀ a, a < 0 → ∀ b, b < 0 → a ≠ b → (TX9 a).2.1 ≠ (TX9 b).2.1 := by decide +kernel
theorem tyX9_ok : ∀ k, k < 0 → parseFieldDescriptor (TX9 k).2.2.1 = some (tyX9 k) := by decide +kernel
def RX10 : String := "ShadedBooks"
def TX10 : u_T := fun k => match k with
  | 0 => ("ShadedBooks", "auction", "LShadedBooks$Auction;", true)
  | 1 => ("ShadedBooks", "trial", "LShadedBooks$Auction;", true)
  | 2 => ("ShadedBooks", "clearing", "LShadedBooks$Clearing;", true)
  | 3 => ("ShadedBooks", "saved", "LShadedBooks$UndoStack;", true)
  | _ => ("ShadedBooks", "commands", "LShadedBooks$CommandText;", true)
def tyX10 : Nat → FieldType := fun k => match k with
  | 0 => .object "ShadedBooks$Auction"
  | 1 => .object "ShadedBooks$Auction"
  | 2 => .object "ShadedBooks$Clearing"
  | 3 => .object "ShadedBooks$UndoStack"
  | _ => .object "ShadedBooks$CommandText"
abbrev wsX100 : List Cond := u_ws RX10 TX10 5
theorem nmX10 : ∀ a, a < 5 → ∀ b, b < 5 → a ≠ b → (TX10 a).2.1 ≠ (TX10 b).2.1 := by decide +kernel
theorem tyX10_ok : ∀ k, k < 5 → parseFieldDescriptor (TX10 k).2.2.1 = some (tyX10 k) := by decide +kernel
abbrev cX10_init : ByteArray := prog_1_method_1_code
def yX10_init : MethodName := ⟨RX10, "<init>", "()V"⟩
abbrev cX10_addTrader : ByteArray := prog_1_method_2_code
def yX10_addTrader : MethodName := ⟨RX10, "addTrader", "(II)I"⟩
abbrev cX10_setValue : ByteArray := prog_1_method_3_code
def yX10_setValue : MethodName := ⟨RX10, "setValue", "(II)I"⟩
abbrev cX10_setShade : ByteArray := prog_1_method_4_code
def yX10_setShade : MethodName := ⟨RX10, "setShade", "(III)I"⟩
abbrev cX10_set : ByteArray := prog_1_method_5_code
def yX10_set : MethodName := ⟨RX10, "set", "(II)I"⟩
abbrev cX10_bid : ByteArray := prog_1_method_6_code
def yX10_bid : MethodName := ⟨RX10, "bid", "(II)I"⟩
abbrev cX10_order : ByteArray := prog_1_method_7_code
def yX10_order : MethodName := ⟨RX10, "order", "(III)I"⟩
abbrev cX10_cancel : ByteArray := prog_1_method_8_code
def yX10_cancel : MethodName := ⟨RX10, "cancel", "(I)I"⟩
abbrev cX10_clear : ByteArray := prog_1_method_9_code
def yX10_clear : MethodName := ⟨RX10, "clear", "()I"⟩
abbrev cX10_trader : ByteArray := prog_1_method_10_code
def yX10_trader : MethodName := ⟨RX10, "trader", "(II)I"⟩
abbrev cX10_orderOf : ByteArray := prog_1_method_11_code
def yX10_orderOf : MethodName := ⟨RX10, "orderOf", "(II)I"⟩
abbrev cX10_trade : ByteArray := prog_1_method_12_code
def yX10_trade : MethodName := ⟨RX10, "trade", "(II)I"⟩
abbrev cX10_now : ByteArray := prog_1_method_14_code
def yX10_now : MethodName := ⟨RX10, "now", "(I)I"⟩
abbrev cX10_whole : ByteArray := prog_1_method_15_code
def yX10_whole : MethodName := ⟨RX10, "whole", "(I)I"⟩
abbrev cX10_reason : ByteArray := prog_1_method_17_code
def yX10_reason : MethodName := ⟨RX10, "reason", "(I)I"⟩
abbrev cX10_gainWith : ByteArray := prog_1_method_18_code
def yX10_gainWith : MethodName := ⟨RX10, "gainWith", "(II)I"⟩
abbrev cX10_bestSplit : ByteArray := prog_1_method_20_code
def yX10_bestSplit : MethodName := ⟨RX10, "bestSplit", "(I)I"⟩
abbrev cX10_goneIn : ByteArray := prog_1_method_21_code
def yX10_goneIn : MethodName := ⟨RX10, "goneIn", "(I)I"⟩
abbrev cX10_undo : ByteArray := prog_1_method_25_code
def yX10_undo : MethodName := ⟨RX10, "undo", "()I"⟩
abbrev cX10_digest : ByteArray := prog_1_method_26_code
def yX10_digest : MethodName := ⟨RX10, "digest", "()J"⟩
abbrev cX10_mix : ByteArray := prog_1_method_27_code
def yX10_mix : MethodName := ⟨RX10, "mix", "(JJ)J"⟩
abbrev cX10_mixTraders : ByteArray := prog_1_method_28_code
def yX10_mixTraders : MethodName := ⟨RX10, "mixTraders", "(J)J"⟩
abbrev cX10_mixOrders : ByteArray := prog_1_method_29_code
def yX10_mixOrders : MethodName := ⟨RX10, "mixOrders", "(J)J"⟩
abbrev cX10_mixTrades : ByteArray := prog_1_method_30_code
def yX10_mixTrades : MethodName := ⟨RX10, "mixTrades", "(J)J"⟩
abbrev cX10_refuse : ByteArray := prog_1_method_31_code
def yX10_refuse : MethodName := ⟨RX10, "refuse", "(I)V"⟩
abbrev cX10_isWithin : ByteArray := prog_1_method_32_code
def yX10_isWithin : MethodName := ⟨RX10, "isWithin", "(III)Z"⟩
abbrev cX10_faultOfWhat : ByteArray := prog_1_method_33_code
def yX10_faultOfWhat : MethodName := ⟨RX10, "faultOfWhat", "(II)I"⟩
abbrev cX10_faultOfPrice : ByteArray := prog_1_method_34_code
def yX10_faultOfPrice : MethodName := ⟨RX10, "faultOfPrice", "(I)I"⟩
abbrev cX10_wholeValue : ByteArray := prog_1_method_35_code
def yX10_wholeValue : MethodName := ⟨RX10, "wholeValue", "(I)I"⟩
def RX11 : String := "ShadedBooksModel"
def TX11 : u_T := fun k => match k with
  | _ => ("", "", "", false)
def tyX11 : Nat → FieldType := fun k => match k with
  | _ => .int
abbrev wsX110 : List Cond := u_ws RX11 TX11 0
theorem nmX11 : ∀ a, a < 0 → ∀ b, b < 0 → a ≠ b → (TX11 a).2.1 ≠ (TX11 b).2.1 := by decide +kernel
theorem tyX11_ok : ∀ k, k < 0 → parseFieldDescriptor (TX11 k).2.2.1 = some (tyX11 k) := by decide +kernel
def RJ9 : String := "java/lang/Math"
def TJ9 : u_T := fun k => match k with
  | _ => ("", "", "", false)
def tyJ9 : Nat → FieldType := fun k => match k with
  | _ => .int
abbrev wsJ90 : List Cond := u_ws RJ9 TJ9 0
theorem nmJ9 : ∀ a, a < 0 → ∀ b, b < 0 → a ≠ b → (TJ9 a).2.1 ≠ (TJ9 b).2.1 := by decide +kernel
theorem tyJ9_ok : ∀ k, k < 0 → parseFieldDescriptor (TJ9 k).2.2.1 = some (tyJ9 k) := by decide +kernel
abbrev cJ9_floorMod_7cf53 : ByteArray := prog_18_method_50_code
def yJ9_floorMod_7cf53 : MethodName := ⟨RJ9, "floorMod", "(II)I"⟩
abbrev cJ9_max_7cf53 : ByteArray := prog_18_method_65_code
def yJ9_max_7cf53 : MethodName := ⟨RJ9, "max", "(II)I"⟩
abbrev cJ9_min_7cf53 : ByteArray := prog_18_method_69_code
def yJ9_min_7cf53 : MethodName := ⟨RJ9, "min", "(II)I"⟩
def RJ0 : String := "java/lang/String"
def TJ0 : u_T := fun k => match k with
  | _ => ("", "", "", false)
def tyJ0 : Nat → FieldType := fun k => match k with
  | _ => .int
abbrev wsJ00 : List Cond := u_ws RJ0 TJ0 0
theorem nmJ0 : ∀ a, a < 0 → ∀ b, b < 0 → a ≠ b → (TJ0 a).2.1 ≠ (TJ0 b).2.1 := by decide +kernel
theorem tyJ0_ok : ∀ k, k < 0 → parseFieldDescriptor (TJ0 k).2.2.1 = some (tyJ0 k) := by decide +kernel
def RL : String := "ShadedBooksLaw"
abbrev cL_cell : ByteArray := method_2_code
def yL_cell : MethodName := ⟨RL, "cell", "([II)I"⟩
abbrev cL_up : ByteArray := method_3_code
def yL_up : MethodName := ⟨RL, "up", "(II)I"⟩
abbrev cL_unitsOf : ByteArray := method_4_code
def yL_unitsOf : MethodName := ⟨RL, "unitsOf", "(LShadedBooks;I)I"⟩
abbrev cL_view : ByteArray := method_5_code
def yL_view : MethodName := ⟨RL, "view", "(LShadedBooks;)J"⟩
abbrev cL_any : ByteArray := method_6_code
def yL_any : MethodName := ⟨RL, "any", "(LShadedBooks;II)I"⟩
abbrev cL_isAct : ByteArray := method_7_code
def yL_isAct : MethodName := ⟨RL, "isAct", "(II)Z"⟩
abbrev cL_turn : ByteArray := method_8_code
def yL_turn : MethodName := ⟨RL, "turn", "(LShadedBooks;III)I"⟩
abbrev cL_tries : ByteArray := method_9_code
def yL_tries : MethodName := ⟨RL, "tries", "(LShadedBooks;III)I"⟩
abbrev cL_areRight : ByteArray := method_10_code
def yL_areRight : MethodName := ⟨RL, "areRight", "(LShadedBooks;)Z"⟩
abbrev cL_isUndone : ByteArray := method_11_code
def yL_isUndone : MethodName := ⟨RL, "isUndone", "(LShadedBooks;IIIIJ)Z"⟩
abbrev cL_law : ByteArray := code
def yL_law : MethodName := ⟨RL, "law", "([I)Z"⟩
theorem dX1_init_0 : decode cX1_init 0 = .ok (.aload_n 0, 1) := by decide +kernel
theorem dX1_init_1 : decode cX1_init 1 = .ok (.invokespecial 3, 3) := by decide +kernel
theorem dX1_init_4 : decode cX1_init 4 = .ok (.aload_n 0, 1) := by decide +kernel
theorem dX1_init_5 : decode cX1_init 5 = .ok (.new 9, 3) := by decide +kernel
theorem dX1_init_8 : decode cX1_init 8 = .ok (.dup, 1) := by decide +kernel
theorem dX1_init_9 : decode cX1_init 9 = .ok (.invokespecial 11, 3) := by decide +kernel
theorem dX1_init_12 : decode cX1_init 12 = .ok (.putfield 12, 3) := by decide +kernel
theorem dX1_init_15 : decode cX1_init 15 = .ok (.aload_n 0, 1) := by decide +kernel
theorem dX1_init_16 : decode cX1_init 16 = .ok (.new 18, 3) := by decide +kernel
theorem dX1_init_19 : decode cX1_init 19 = .ok (.dup, 1) := by decide +kernel
theorem dX1_init_20 : decode cX1_init 20 = .ok (.invokespecial 20, 3) := by decide +kernel
theorem dX1_init_23 : decode cX1_init 23 = .ok (.putfield 21, 3) := by decide +kernel
theorem dX1_init_26 : decode cX1_init 26 = .ok (.aload_n 0, 1) := by decide +kernel
theorem dX1_init_27 : decode cX1_init 27 = .ok (.new 25, 3) := by decide +kernel
theorem dX1_init_30 : decode cX1_init 30 = .ok (.dup, 1) := by decide +kernel
theorem dX1_init_31 : decode cX1_init 31 = .ok (.invokespecial 27, 3) := by decide +kernel
theorem dX1_init_34 : decode cX1_init 34 = .ok (.putfield 28, 3) := by decide +kernel
theorem dX1_init_37 : decode cX1_init 37 = .ok (.aload_n 0, 1) := by decide +kernel
theorem dX1_init_38 : decode cX1_init 38 = .ok (.iconst 5, 1) := by decide +kernel
theorem dX1_init_39 : decode cX1_init 39 = .ok (.putfield 32, 3) := by decide +kernel
theorem dX1_init_42 : decode cX1_init 42 = .ok (.aload_n 0, 1) := by decide +kernel
theorem dX1_init_43 : decode cX1_init 43 = .ok (.iconst 3, 1) := by decide +kernel
theorem dX1_init_44 : decode cX1_init 44 = .ok (.putfield 36, 3) := by decide +kernel
theorem dX1_init_47 : decode cX1_init 47 = .ok (.aload_n 0, 1) := by decide +kernel
theorem dX1_init_48 : decode cX1_init 48 = .ok (.sipush (-10000), 3) := by decide +kernel
theorem dX1_init_51 : decode cX1_init 51 = .ok (.putfield 39, 3) := by decide +kernel
theorem dX1_init_54 : decode cX1_init 54 = .ok (.return_, 1) := by decide +kernel
theorem dX1_faultOfJoin_0 : decode cX1_faultOfJoin 0 = .ok (.iload_n 1, 1) := by decide +kernel
theorem dX1_faultOfJoin_1 : decode cX1_faultOfJoin 1 = .ok (.iconst 0, 1) := by decide +kernel
theorem dX1_faultOfJoin_2 : decode cX1_faultOfJoin 2 = .ok (.iconst 1, 1) := by decide +kernel
theorem dX1_faultOfJoin_3 : decode cX1_faultOfJoin 3 = .ok (.invokestatic 42, 3) := by decide +kernel
theorem dX1_faultOfJoin_6 : decode cX1_faultOfJoin 6 = .ok (.ifCond .eq 13, 3) := by decide +kernel
theorem dX1_faultOfJoin_9 : decode cX1_faultOfJoin 9 = .ok (.iload_n 2, 1) := by decide +kernel
theorem dX1_faultOfJoin_10 : decode cX1_faultOfJoin 10 = .ok (.iconst 1, 1) := by decide +kernel
theorem dX1_faultOfJoin_11 : decode cX1_faultOfJoin 11 = .ok (.bipush 99, 2) := by decide +kernel
theorem dX1_faultOfJoin_13 : decode cX1_faultOfJoin 13 = .ok (.invokestatic 42, 3) := by decide +kernel
theorem dX1_faultOfJoin_16 : decode cX1_faultOfJoin 16 = .ok (.ifCond .ne 5, 3) := by decide +kernel
theorem dX1_faultOfJoin_19 : decode cX1_faultOfJoin 19 = .ok (.iconst 2, 1) := by decide +kernel
theorem dX1_faultOfJoin_20 : decode cX1_faultOfJoin 20 = .ok (.ireturn, 1) := by decide +kernel
theorem dX1_faultOfJoin_21 : decode cX1_faultOfJoin 21 = .ok (.aload_n 0, 1) := by decide +kernel
theorem dX1_faultOfJoin_22 : decode cX1_faultOfJoin 22 = .ok (.getfield 12, 3) := by decide +kernel
theorem dX1_faultOfJoin_25 : decode cX1_faultOfJoin 25 = .ok (.getfield 46, 3) := by decide +kernel
theorem dX1_faultOfJoin_28 : decode cX1_faultOfJoin 28 = .ok (.bipush 8, 2) := by decide +kernel
theorem dX1_faultOfJoin_30 : decode cX1_faultOfJoin 30 = .ok (.if_icmp .lt 7, 3) := by decide +kernel
theorem dX1_faultOfJoin_33 : decode cX1_faultOfJoin 33 = .ok (.iconst 3, 1) := by decide +kernel
theorem dX1_faultOfJoin_34 : decode cX1_faultOfJoin 34 = .ok (.goto 4, 3) := by decide +kernel
theorem dX1_faultOfJoin_37 : decode cX1_faultOfJoin 37 = .ok (.iconst 0, 1) := by decide +kernel
theorem dX1_faultOfJoin_38 : decode cX1_faultOfJoin 38 = .ok (.ireturn, 1) := by decide +kernel
theorem dX1_faultOfValue_0 : decode cX1_faultOfValue 0 = .ok (.aload_n 0, 1) := by decide +kernel
theorem dX1_faultOfValue_1 : decode cX1_faultOfValue 1 = .ok (.getfield 12, 3) := by decide +kernel
theorem dX1_faultOfValue_4 : decode cX1_faultOfValue 4 = .ok (.iload_n 1, 1) := by decide +kernel
theorem dX1_faultOfValue_5 : decode cX1_faultOfValue 5 = .ok (.invokevirtual 49, 3) := by decide +kernel
theorem dX1_faultOfValue_8 : decode cX1_faultOfValue 8 = .ok (.ifCond .ne 5, 3) := by decide +kernel
theorem dX1_faultOfValue_11 : decode cX1_faultOfValue 11 = .ok (.iconst 1, 1) := by decide +kernel
theorem dX1_faultOfValue_12 : decode cX1_faultOfValue 12 = .ok (.ireturn, 1) := by decide +kernel
theorem dX1_faultOfValue_13 : decode cX1_faultOfValue 13 = .ok (.iload_n 2, 1) := by decide +kernel
theorem dX1_faultOfValue_14 : decode cX1_faultOfValue 14 = .ok (.iconst 1, 1) := by decide +kernel
theorem dX1_faultOfValue_15 : decode cX1_faultOfValue 15 = .ok (.bipush 99, 2) := by decide +kernel
theorem dX1_faultOfValue_17 : decode cX1_faultOfValue 17 = .ok (.invokestatic 42, 3) := by decide +kernel
theorem dX1_faultOfValue_20 : decode cX1_faultOfValue 20 = .ok (.ifCond .eq 7, 3) := by decide +kernel
theorem dX1_faultOfValue_23 : decode cX1_faultOfValue 23 = .ok (.iconst 0, 1) := by decide +kernel
theorem dX1_faultOfValue_24 : decode cX1_faultOfValue 24 = .ok (.goto 4, 3) := by decide +kernel
theorem dX1_faultOfValue_27 : decode cX1_faultOfValue 27 = .ok (.iconst 2, 1) := by decide +kernel
theorem dX1_faultOfValue_28 : decode cX1_faultOfValue 28 = .ok (.ireturn, 1) := by decide +kernel
theorem dX1_faultOfShade_0 : decode cX1_faultOfShade 0 = .ok (.aload_n 0, 1) := by decide +kernel
theorem dX1_faultOfShade_1 : decode cX1_faultOfShade 1 = .ok (.getfield 12, 3) := by decide +kernel
theorem dX1_faultOfShade_4 : decode cX1_faultOfShade 4 = .ok (.iload_n 1, 1) := by decide +kernel
theorem dX1_faultOfShade_5 : decode cX1_faultOfShade 5 = .ok (.invokevirtual 49, 3) := by decide +kernel
theorem dX1_faultOfShade_8 : decode cX1_faultOfShade 8 = .ok (.ifCond .ne 5, 3) := by decide +kernel
theorem dX1_faultOfShade_11 : decode cX1_faultOfShade 11 = .ok (.iconst 1, 1) := by decide +kernel
theorem dX1_faultOfShade_12 : decode cX1_faultOfShade 12 = .ok (.ireturn, 1) := by decide +kernel
theorem dX1_faultOfShade_13 : decode cX1_faultOfShade 13 = .ok (.iload_n 2, 1) := by decide +kernel
theorem dX1_faultOfShade_14 : decode cX1_faultOfShade 14 = .ok (.iconst 0, 1) := by decide +kernel
theorem dX1_faultOfShade_15 : decode cX1_faultOfShade 15 = .ok (.iconst 3, 1) := by decide +kernel
theorem dX1_faultOfShade_16 : decode cX1_faultOfShade 16 = .ok (.invokestatic 42, 3) := by decide +kernel
theorem dX1_faultOfShade_19 : decode cX1_faultOfShade 19 = .ok (.ifCond .eq 17, 3) := by decide +kernel
theorem dX1_faultOfShade_22 : decode cX1_faultOfShade 22 = .ok (.iload_n 3, 1) := by decide +kernel
theorem dX1_faultOfShade_23 : decode cX1_faultOfShade 23 = .ok (.iconst 0, 1) := by decide +kernel
theorem dX1_faultOfShade_24 : decode cX1_faultOfShade 24 = .ok (.bipush 50, 2) := by decide +kernel
theorem dX1_faultOfShade_26 : decode cX1_faultOfShade 26 = .ok (.invokestatic 42, 3) := by decide +kernel
theorem dX1_faultOfShade_29 : decode cX1_faultOfShade 29 = .ok (.ifCond .eq 7, 3) := by decide +kernel
theorem dX1_faultOfShade_32 : decode cX1_faultOfShade 32 = .ok (.iconst 0, 1) := by decide +kernel
theorem dX1_faultOfShade_33 : decode cX1_faultOfShade 33 = .ok (.goto 4, 3) := by decide +kernel
theorem dX1_faultOfShade_36 : decode cX1_faultOfShade 36 = .ok (.iconst 2, 1) := by decide +kernel
theorem dX1_faultOfShade_37 : decode cX1_faultOfShade 37 = .ok (.ireturn, 1) := by decide +kernel
theorem dX1_faultOfSetting_0 : decode cX1_faultOfSetting 0 = .ok (.iload_n 1, 1) := by decide +kernel
theorem dX1_faultOfSetting_1 : decode cX1_faultOfSetting 1 = .ok (.ifCond .ne 19, 3) := by decide +kernel
theorem dX1_faultOfSetting_4 : decode cX1_faultOfSetting 4 = .ok (.iload_n 2, 1) := by decide +kernel
theorem dX1_faultOfSetting_5 : decode cX1_faultOfSetting 5 = .ok (.iconst 0, 1) := by decide +kernel
theorem dX1_faultOfSetting_6 : decode cX1_faultOfSetting 6 = .ok (.bipush 10, 2) := by decide +kernel
theorem dX1_faultOfSetting_8 : decode cX1_faultOfSetting 8 = .ok (.invokestatic 42, 3) := by decide +kernel
theorem dX1_faultOfSetting_11 : decode cX1_faultOfSetting 11 = .ok (.ifCond .eq 7, 3) := by decide +kernel
theorem dX1_faultOfSetting_14 : decode cX1_faultOfSetting 14 = .ok (.iconst 0, 1) := by decide +kernel
theorem dX1_faultOfSetting_15 : decode cX1_faultOfSetting 15 = .ok (.goto 4, 3) := by decide +kernel
theorem dX1_faultOfSetting_18 : decode cX1_faultOfSetting 18 = .ok (.iconst 2, 1) := by decide +kernel
theorem dX1_faultOfSetting_19 : decode cX1_faultOfSetting 19 = .ok (.ireturn, 1) := by decide +kernel
theorem dX1_faultOfSetting_20 : decode cX1_faultOfSetting 20 = .ok (.iload_n 1, 1) := by decide +kernel
theorem dX1_faultOfSetting_21 : decode cX1_faultOfSetting 21 = .ok (.iconst 1, 1) := by decide +kernel
theorem dX1_faultOfSetting_22 : decode cX1_faultOfSetting 22 = .ok (.if_icmp .ne 17, 3) := by decide +kernel
theorem dX1_faultOfSetting_25 : decode cX1_faultOfSetting 25 = .ok (.iload_n 2, 1) := by decide +kernel
theorem dX1_faultOfSetting_26 : decode cX1_faultOfSetting 26 = .ok (.iconst 1, 1) := by decide +kernel
theorem dX1_faultOfSetting_27 : decode cX1_faultOfSetting 27 = .ok (.bipush 9, 2) := by decide +kernel
theorem dX1_faultOfSetting_29 : decode cX1_faultOfSetting 29 = .ok (.invokestatic 42, 3) := by decide +kernel
theorem dX1_faultOfSetting_32 : decode cX1_faultOfSetting 32 = .ok (.ifCond .eq 7, 3) := by decide +kernel
theorem dX1_faultOfSetting_35 : decode cX1_faultOfSetting 35 = .ok (.iconst 0, 1) := by decide +kernel
theorem dX1_faultOfSetting_36 : decode cX1_faultOfSetting 36 = .ok (.goto 4, 3) := by decide +kernel
theorem dX1_faultOfSetting_39 : decode cX1_faultOfSetting 39 = .ok (.iconst 2, 1) := by decide +kernel
theorem dX1_faultOfSetting_40 : decode cX1_faultOfSetting 40 = .ok (.ireturn, 1) := by decide +kernel
theorem dX1_faultOfBid_0 : decode cX1_faultOfBid 0 = .ok (.aload_n 0, 1) := by decide +kernel
theorem dX1_faultOfBid_1 : decode cX1_faultOfBid 1 = .ok (.iload_n 1, 1) := by decide +kernel
theorem dX1_faultOfBid_2 : decode cX1_faultOfBid 2 = .ok (.iconst 1, 1) := by decide +kernel
theorem dX1_faultOfBid_3 : decode cX1_faultOfBid 3 = .ok (.iload_n 2, 1) := by decide +kernel
theorem dX1_faultOfBid_4 : decode cX1_faultOfBid 4 = .ok (.invokevirtual 53, 3) := by decide +kernel
theorem dX1_faultOfBid_7 : decode cX1_faultOfBid 7 = .ok (.ireturn, 1) := by decide +kernel
theorem dX1_faultOfOrder_0 : decode cX1_faultOfOrder 0 = .ok (.aload_n 0, 1) := by decide +kernel
theorem dX1_faultOfOrder_1 : decode cX1_faultOfOrder 1 = .ok (.getfield 12, 3) := by decide +kernel
theorem dX1_faultOfOrder_4 : decode cX1_faultOfOrder 4 = .ok (.iload_n 1, 1) := by decide +kernel
theorem dX1_faultOfOrder_5 : decode cX1_faultOfOrder 5 = .ok (.invokevirtual 49, 3) := by decide +kernel
theorem dX1_faultOfOrder_8 : decode cX1_faultOfOrder 8 = .ok (.ifCond .ne 5, 3) := by decide +kernel
theorem dX1_faultOfOrder_11 : decode cX1_faultOfOrder 11 = .ok (.iconst 1, 1) := by decide +kernel
theorem dX1_faultOfOrder_12 : decode cX1_faultOfOrder 12 = .ok (.ireturn, 1) := by decide +kernel
theorem dX1_faultOfOrder_13 : decode cX1_faultOfOrder 13 = .ok (.iload_n 2, 1) := by decide +kernel
theorem dX1_faultOfOrder_14 : decode cX1_faultOfOrder 14 = .ok (.iconst 1, 1) := by decide +kernel
theorem dX1_faultOfOrder_15 : decode cX1_faultOfOrder 15 = .ok (.bipush 120, 2) := by decide +kernel
theorem dX1_faultOfOrder_17 : decode cX1_faultOfOrder 17 = .ok (.invokestatic 42, 3) := by decide +kernel
theorem dX1_faultOfOrder_20 : decode cX1_faultOfOrder 20 = .ok (.ifCond .eq 13, 3) := by decide +kernel
theorem dX1_faultOfOrder_23 : decode cX1_faultOfOrder 23 = .ok (.iload_n 3, 1) := by decide +kernel
theorem dX1_faultOfOrder_24 : decode cX1_faultOfOrder 24 = .ok (.iconst 1, 1) := by decide +kernel
theorem dX1_faultOfOrder_25 : decode cX1_faultOfOrder 25 = .ok (.bipush 9, 2) := by decide +kernel
theorem dX1_faultOfOrder_27 : decode cX1_faultOfOrder 27 = .ok (.invokestatic 42, 3) := by decide +kernel
theorem dX1_faultOfOrder_30 : decode cX1_faultOfOrder 30 = .ok (.ifCond .ne 5, 3) := by decide +kernel
theorem dX1_faultOfOrder_33 : decode cX1_faultOfOrder 33 = .ok (.iconst 2, 1) := by decide +kernel
theorem dX1_faultOfOrder_34 : decode cX1_faultOfOrder 34 = .ok (.ireturn, 1) := by decide +kernel
theorem dX1_faultOfOrder_35 : decode cX1_faultOfOrder 35 = .ok (.aload_n 0, 1) := by decide +kernel
theorem dX1_faultOfOrder_36 : decode cX1_faultOfOrder 36 = .ok (.getfield 21, 3) := by decide +kernel
theorem dX1_faultOfOrder_39 : decode cX1_faultOfOrder 39 = .ok (.invokevirtual 57, 3) := by decide +kernel
theorem dX1_faultOfOrder_42 : decode cX1_faultOfOrder 42 = .ok (.ifCond .eq 7, 3) := by decide +kernel
theorem dX1_faultOfOrder_45 : decode cX1_faultOfOrder 45 = .ok (.iconst 3, 1) := by decide +kernel
theorem dX1_faultOfOrder_46 : decode cX1_faultOfOrder 46 = .ok (.goto 4, 3) := by decide +kernel
theorem dX1_faultOfOrder_49 : decode cX1_faultOfOrder 49 = .ok (.iconst 0, 1) := by decide +kernel
theorem dX1_faultOfOrder_50 : decode cX1_faultOfOrder 50 = .ok (.ireturn, 1) := by decide +kernel
theorem dX1_faultOfRound_0 : decode cX1_faultOfRound 0 = .ok (.aload_n 0, 1) := by decide +kernel
theorem dX1_faultOfRound_1 : decode cX1_faultOfRound 1 = .ok (.getfield 61, 3) := by decide +kernel
theorem dX1_faultOfRound_4 : decode cX1_faultOfRound 4 = .ok (.sipush 9999, 3) := by decide +kernel
theorem dX1_faultOfRound_7 : decode cX1_faultOfRound 7 = .ok (.if_icmp .lt 7, 3) := by decide +kernel
theorem dX1_faultOfRound_10 : decode cX1_faultOfRound 10 = .ok (.iconst 3, 1) := by decide +kernel
theorem dX1_faultOfRound_11 : decode cX1_faultOfRound 11 = .ok (.goto 4, 3) := by decide +kernel
theorem dX1_faultOfRound_14 : decode cX1_faultOfRound 14 = .ok (.iconst 0, 1) := by decide +kernel
theorem dX1_faultOfRound_15 : decode cX1_faultOfRound 15 = .ok (.ireturn, 1) := by decide +kernel
theorem dX1_change_0 : decode cX1_change 0 = .ok (.iload_n 1, 1) := by decide +kernel
theorem dX1_change_1 : decode cX1_change 1 = .ok (.ifCond .ne 10, 3) := by decide +kernel
theorem dX1_change_4 : decode cX1_change 4 = .ok (.aload_n 0, 1) := by decide +kernel
theorem dX1_change_5 : decode cX1_change 5 = .ok (.getfield 32, 3) := by decide +kernel
theorem dX1_change_8 : decode cX1_change 8 = .ok (.goto 7, 3) := by decide +kernel
theorem dX1_change_11 : decode cX1_change 11 = .ok (.aload_n 0, 1) := by decide +kernel
theorem dX1_change_12 : decode cX1_change 12 = .ok (.getfield 36, 3) := by decide +kernel
theorem dX1_change_15 : decode cX1_change 15 = .ok (.istore_n 3, 1) := by decide +kernel
theorem dX1_change_16 : decode cX1_change 16 = .ok (.iload_n 1, 1) := by decide +kernel
theorem dX1_change_17 : decode cX1_change 17 = .ok (.ifCond .ne 11, 3) := by decide +kernel
theorem dX1_change_20 : decode cX1_change 20 = .ok (.aload_n 0, 1) := by decide +kernel
theorem dX1_change_21 : decode cX1_change 21 = .ok (.iload_n 2, 1) := by decide +kernel
theorem dX1_change_22 : decode cX1_change 22 = .ok (.putfield 32, 3) := by decide +kernel
theorem dX1_change_25 : decode cX1_change 25 = .ok (.goto 8, 3) := by decide +kernel
theorem dX1_change_28 : decode cX1_change 28 = .ok (.aload_n 0, 1) := by decide +kernel
theorem dX1_change_29 : decode cX1_change 29 = .ok (.iload_n 2, 1) := by decide +kernel
theorem dX1_change_30 : decode cX1_change 30 = .ok (.putfield 36, 3) := by decide +kernel
theorem dX1_change_33 : decode cX1_change 33 = .ok (.iload_n 3, 1) := by decide +kernel
theorem dX1_change_34 : decode cX1_change 34 = .ok (.ireturn, 1) := by decide +kernel
theorem dX1_place_0 : decode cX1_place 0 = .ok (.aload_n 0, 1) := by decide +kernel
theorem dX1_place_1 : decode cX1_place 1 = .ok (.getfield 21, 3) := by decide +kernel
theorem dX1_place_4 : decode cX1_place 4 = .ok (.aload_n 0, 1) := by decide +kernel
theorem dX1_place_5 : decode cX1_place 5 = .ok (.getfield 64, 3) := by decide +kernel
theorem dX1_place_8 : decode cX1_place 8 = .ok (.iload_n 1, 1) := by decide +kernel
theorem dX1_place_9 : decode cX1_place 9 = .ok (.aload_n 0, 1) := by decide +kernel
theorem dX1_place_10 : decode cX1_place 10 = .ok (.getfield 12, 3) := by decide +kernel
theorem dX1_place_13 : decode cX1_place 13 = .ok (.getfield 67, 3) := by decide +kernel
theorem dX1_place_16 : decode cX1_place 16 = .ok (.iload_n 1, 1) := by decide +kernel
theorem dX1_place_17 : decode cX1_place 17 = .ok (.invokevirtual 71, 3) := by decide +kernel
theorem dX1_place_20 : decode cX1_place 20 = .ok (.iload_n 2, 1) := by decide +kernel
theorem dX1_place_21 : decode cX1_place 21 = .ok (.iload_n 3, 1) := by decide +kernel
theorem dX1_place_22 : decode cX1_place 22 = .ok (.aload_n 0, 1) := by decide +kernel
theorem dX1_place_23 : decode cX1_place 23 = .ok (.getfield 61, 3) := by decide +kernel
theorem dX1_place_26 : decode cX1_place 26 = .ok (.invokevirtual 77, 3) := by decide +kernel
theorem dX1_place_29 : decode cX1_place 29 = .ok (.aload_n 0, 1) := by decide +kernel
theorem dX1_place_30 : decode cX1_place 30 = .ok (.dup, 1) := by decide +kernel
theorem dX1_place_31 : decode cX1_place 31 = .ok (.getfield 64, 3) := by decide +kernel
theorem dX1_place_34 : decode cX1_place 34 = .ok (.iconst 1, 1) := by decide +kernel
theorem dX1_place_35 : decode cX1_place 35 = .ok (.iadd, 1) := by decide +kernel
theorem dX1_place_36 : decode cX1_place 36 = .ok (.putfield 64, 3) := by decide +kernel
theorem dX1_place_39 : decode cX1_place 39 = .ok (.aload_n 0, 1) := by decide +kernel
theorem dX1_place_40 : decode cX1_place 40 = .ok (.getfield 64, 3) := by decide +kernel
theorem dX1_place_43 : decode cX1_place 43 = .ok (.iconst 1, 1) := by decide +kernel
theorem dX1_place_44 : decode cX1_place 44 = .ok (.isub, 1) := by decide +kernel
theorem dX1_place_45 : decode cX1_place 45 = .ok (.ireturn, 1) := by decide +kernel
theorem dX1_endRound_0 : decode cX1_endRound 0 = .ok (.aload_n 1, 1) := by decide +kernel
theorem dX1_endRound_1 : decode cX1_endRound 1 = .ok (.aload_n 0, 1) := by decide +kernel
theorem dX1_endRound_2 : decode cX1_endRound 2 = .ok (.invokevirtual 81, 3) := by decide +kernel
theorem dX1_endRound_5 : decode cX1_endRound 5 = .ok (.aload_n 1, 1) := by decide +kernel
theorem dX1_endRound_6 : decode cX1_endRound 6 = .ok (.aload_n 0, 1) := by decide +kernel
theorem dX1_endRound_7 : decode cX1_endRound 7 = .ok (.getfield 21, 3) := by decide +kernel
theorem dX1_endRound_10 : decode cX1_endRound 10 = .ok (.aload_n 0, 1) := by decide +kernel
theorem dX1_endRound_11 : decode cX1_endRound 11 = .ok (.getfield 28, 3) := by decide +kernel
theorem dX1_endRound_14 : decode cX1_endRound 14 = .ok (.invokevirtual 87, 3) := by decide +kernel
theorem dX1_endRound_17 : decode cX1_endRound 17 = .ok (.aload_n 0, 1) := by decide +kernel
theorem dX1_endRound_18 : decode cX1_endRound 18 = .ok (.aload_n 1, 1) := by decide +kernel
theorem dX1_endRound_19 : decode cX1_endRound 19 = .ok (.getfield 91, 3) := by decide +kernel
theorem dX1_endRound_22 : decode cX1_endRound 22 = .ok (.putfield 39, 3) := by decide +kernel
theorem dX1_endRound_25 : decode cX1_endRound 25 = .ok (.aload_n 0, 1) := by decide +kernel
theorem dX1_endRound_26 : decode cX1_endRound 26 = .ok (.dup, 1) := by decide +kernel
theorem dX1_endRound_27 : decode cX1_endRound 27 = .ok (.getfield 94, 3) := by decide +kernel
theorem dX1_endRound_30 : decode cX1_endRound 30 = .ok (.aload_n 1, 1) := by decide +kernel
theorem dX1_endRound_31 : decode cX1_endRound 31 = .ok (.getfield 97, 3) := by decide +kernel
theorem dX1_endRound_34 : decode cX1_endRound 34 = .ok (.iadd, 1) := by decide +kernel
theorem dX1_endRound_35 : decode cX1_endRound 35 = .ok (.putfield 94, 3) := by decide +kernel
theorem dX1_endRound_38 : decode cX1_endRound 38 = .ok (.aload_n 0, 1) := by decide +kernel
theorem dX1_endRound_39 : decode cX1_endRound 39 = .ok (.dup, 1) := by decide +kernel
theorem dX1_endRound_40 : decode cX1_endRound 40 = .ok (.getfield 100, 3) := by decide +kernel
theorem dX1_endRound_43 : decode cX1_endRound 43 = .ok (.aload_n 1, 1) := by decide +kernel
theorem dX1_endRound_44 : decode cX1_endRound 44 = .ok (.getfield 103, 3) := by decide +kernel
theorem dX1_endRound_47 : decode cX1_endRound 47 = .ok (.iadd, 1) := by decide +kernel
theorem dX1_endRound_48 : decode cX1_endRound 48 = .ok (.putfield 100, 3) := by decide +kernel
theorem dX1_endRound_51 : decode cX1_endRound 51 = .ok (.iconst 0, 1) := by decide +kernel
theorem dX1_endRound_52 : decode cX1_endRound 52 = .ok (.istore_n 2, 1) := by decide +kernel
theorem dX1_endRound_53 : decode cX1_endRound 53 = .ok (.iload_n 2, 1) := by decide +kernel
theorem dX1_endRound_54 : decode cX1_endRound 54 = .ok (.aload_n 0, 1) := by decide +kernel
theorem dX1_endRound_55 : decode cX1_endRound 55 = .ok (.getfield 12, 3) := by decide +kernel
theorem dX1_endRound_58 : decode cX1_endRound 58 = .ok (.getfield 46, 3) := by decide +kernel
theorem dX1_endRound_61 : decode cX1_endRound 61 = .ok (.if_icmp .ge 49, 3) := by decide +kernel
theorem dX1_endRound_64 : decode cX1_endRound 64 = .ok (.aload_n 1, 1) := by decide +kernel
theorem dX1_endRound_65 : decode cX1_endRound 65 = .ok (.aload_n 0, 1) := by decide +kernel
theorem dX1_endRound_66 : decode cX1_endRound 66 = .ok (.getfield 21, 3) := by decide +kernel
theorem dX1_endRound_69 : decode cX1_endRound 69 = .ok (.iload_n 2, 1) := by decide +kernel
theorem dX1_endRound_70 : decode cX1_endRound 70 = .ok (.invokevirtual 104, 3) := by decide +kernel
theorem dX1_endRound_73 : decode cX1_endRound 73 = .ok (.istore_n 3, 1) := by decide +kernel
theorem dX1_endRound_74 : decode cX1_endRound 74 = .ok (.aload_n 0, 1) := by decide +kernel
theorem dX1_endRound_75 : decode cX1_endRound 75 = .ok (.getfield 12, 3) := by decide +kernel
theorem dX1_endRound_78 : decode cX1_endRound 78 = .ok (.iload_n 2, 1) := by decide +kernel
theorem dX1_endRound_79 : decode cX1_endRound 79 = .ok (.iload_n 3, 1) := by decide +kernel
theorem dX1_endRound_80 : decode cX1_endRound 80 = .ok (.aload_n 1, 1) := by decide +kernel
theorem dX1_endRound_81 : decode cX1_endRound 81 = .ok (.getfield 91, 3) := by decide +kernel
theorem dX1_endRound_84 : decode cX1_endRound 84 = .ok (.invokevirtual 108, 3) := by decide +kernel
theorem dX1_endRound_87 : decode cX1_endRound 87 = .ok (.aload_n 0, 1) := by decide +kernel
theorem dX1_endRound_88 : decode cX1_endRound 88 = .ok (.getfield 12, 3) := by decide +kernel
theorem dX1_endRound_91 : decode cX1_endRound 91 = .ok (.iload_n 2, 1) := by decide +kernel
theorem dX1_endRound_92 : decode cX1_endRound 92 = .ok (.aload_n 0, 1) := by decide +kernel
theorem dX1_endRound_93 : decode cX1_endRound 93 = .ok (.getfield 21, 3) := by decide +kernel
theorem dX1_endRound_96 : decode cX1_endRound 96 = .ok (.iload_n 2, 1) := by decide +kernel
theorem dX1_endRound_97 : decode cX1_endRound 97 = .ok (.invokevirtual 112, 3) := by decide +kernel
theorem dX1_endRound_100 : decode cX1_endRound 100 = .ok (.iload_n 3, 1) := by decide +kernel
theorem dX1_endRound_101 : decode cX1_endRound 101 = .ok (.invokevirtual 115, 3) := by decide +kernel
theorem dX1_endRound_104 : decode cX1_endRound 104 = .ok (.iinc 2 1, 3) := by decide +kernel
theorem dX1_endRound_107 : decode cX1_endRound 107 = .ok (.goto (-54), 3) := by decide +kernel
theorem dX1_endRound_110 : decode cX1_endRound 110 = .ok (.iconst 0, 1) := by decide +kernel
theorem dX1_endRound_111 : decode cX1_endRound 111 = .ok (.istore_n 2, 1) := by decide +kernel
theorem dX1_endRound_112 : decode cX1_endRound 112 = .ok (.iload_n 2, 1) := by decide +kernel
theorem dX1_endRound_113 : decode cX1_endRound 113 = .ok (.aload_n 0, 1) := by decide +kernel
theorem dX1_endRound_114 : decode cX1_endRound 114 = .ok (.getfield 21, 3) := by decide +kernel
theorem dX1_endRound_117 : decode cX1_endRound 117 = .ok (.getfield 118, 3) := by decide +kernel
theorem dX1_endRound_120 : decode cX1_endRound 120 = .ok (.if_icmp .ge 29, 3) := by decide +kernel
theorem dX1_endRound_123 : decode cX1_endRound 123 = .ok (.aload_n 0, 1) := by decide +kernel
theorem dX1_endRound_124 : decode cX1_endRound 124 = .ok (.getfield 21, 3) := by decide +kernel
theorem dX1_endRound_127 : decode cX1_endRound 127 = .ok (.getfield 119, 3) := by decide +kernel
theorem dX1_endRound_130 : decode cX1_endRound 130 = .ok (.iload_n 2, 1) := by decide +kernel
theorem dX1_endRound_131 : decode cX1_endRound 131 = .ok (.aload_n 1, 1) := by decide +kernel
theorem dX1_endRound_132 : decode cX1_endRound 132 = .ok (.getfield 122, 3) := by decide +kernel
theorem dX1_endRound_135 : decode cX1_endRound 135 = .ok (.iload_n 2, 1) := by decide +kernel
theorem dX1_endRound_136 : decode cX1_endRound 136 = .ok (.invokevirtual 71, 3) := by decide +kernel
theorem dX1_endRound_139 : decode cX1_endRound 139 = .ok (.ineg, 1) := by decide +kernel
theorem dX1_endRound_140 : decode cX1_endRound 140 = .ok (.invokevirtual 125, 3) := by decide +kernel
theorem dX1_endRound_143 : decode cX1_endRound 143 = .ok (.iinc 2 1, 3) := by decide +kernel
theorem dX1_endRound_146 : decode cX1_endRound 146 = .ok (.goto (-34), 3) := by decide +kernel
theorem dX1_endRound_149 : decode cX1_endRound 149 = .ok (.aload_n 0, 1) := by decide +kernel
theorem dX1_endRound_150 : decode cX1_endRound 150 = .ok (.getfield 21, 3) := by decide +kernel
theorem dX1_endRound_153 : decode cX1_endRound 153 = .ok (.invokevirtual 129, 3) := by decide +kernel
theorem dX1_endRound_156 : decode cX1_endRound 156 = .ok (.aload_n 0, 1) := by decide +kernel
theorem dX1_endRound_157 : decode cX1_endRound 157 = .ok (.dup, 1) := by decide +kernel
theorem dX1_endRound_158 : decode cX1_endRound 158 = .ok (.getfield 61, 3) := by decide +kernel
theorem dX1_endRound_161 : decode cX1_endRound 161 = .ok (.iconst 1, 1) := by decide +kernel
theorem dX1_endRound_162 : decode cX1_endRound 162 = .ok (.iadd, 1) := by decide +kernel
theorem dX1_endRound_163 : decode cX1_endRound 163 = .ok (.putfield 61, 3) := by decide +kernel
theorem dX1_endRound_166 : decode cX1_endRound 166 = .ok (.aload_n 0, 1) := by decide +kernel
theorem dX1_endRound_167 : decode cX1_endRound 167 = .ok (.dup, 1) := by decide +kernel
theorem dX1_endRound_168 : decode cX1_endRound 168 = .ok (.getfield 132, 3) := by decide +kernel
theorem dX1_endRound_171 : decode cX1_endRound 171 = .ok (.aload_n 0, 1) := by decide +kernel
theorem dX1_endRound_172 : decode cX1_endRound 172 = .ok (.getfield 21, 3) := by decide +kernel
theorem dX1_endRound_175 : decode cX1_endRound 175 = .ok (.aload_n 0, 1) := by decide +kernel
theorem dX1_endRound_176 : decode cX1_endRound 176 = .ok (.getfield 61, 3) := by decide +kernel
theorem dX1_endRound_179 : decode cX1_endRound 179 = .ok (.aload_n 0, 1) := by decide +kernel
theorem dX1_endRound_180 : decode cX1_endRound 180 = .ok (.getfield 36, 3) := by decide +kernel
theorem dX1_endRound_183 : decode cX1_endRound 183 = .ok (.isub, 1) := by decide +kernel
theorem dX1_endRound_184 : decode cX1_endRound 184 = .ok (.invokevirtual 135, 3) := by decide +kernel
theorem dX1_endRound_187 : decode cX1_endRound 187 = .ok (.iadd, 1) := by decide +kernel
theorem dX1_endRound_188 : decode cX1_endRound 188 = .ok (.putfield 132, 3) := by decide +kernel
theorem dX1_endRound_191 : decode cX1_endRound 191 = .ok (.aload_n 1, 1) := by decide +kernel
theorem dX1_endRound_192 : decode cX1_endRound 192 = .ok (.getfield 97, 3) := by decide +kernel
theorem dX1_endRound_195 : decode cX1_endRound 195 = .ok (.ireturn, 1) := by decide +kernel
theorem dX1_traderValue_0 : decode cX1_traderValue 0 = .ok (.iload_n 2, 1) := by decide +kernel
theorem dX1_traderValue_1 : decode cX1_traderValue 1 = .ok (.tableswitch 150 0 8 #[51, 63, 75, 87, 99, 108, 117, 126, 138], 51) := by decide +kernel
theorem dX1_traderValue_52 : decode cX1_traderValue 52 = .ok (.aload_n 0, 1) := by decide +kernel
theorem dX1_traderValue_53 : decode cX1_traderValue 53 = .ok (.getfield 12, 3) := by decide +kernel
theorem dX1_traderValue_56 : decode cX1_traderValue 56 = .ok (.getfield 67, 3) := by decide +kernel
theorem dX1_traderValue_59 : decode cX1_traderValue 59 = .ok (.iload_n 1, 1) := by decide +kernel
theorem dX1_traderValue_60 : decode cX1_traderValue 60 = .ok (.invokevirtual 71, 3) := by decide +kernel
theorem dX1_traderValue_63 : decode cX1_traderValue 63 = .ok (.ireturn, 1) := by decide +kernel
theorem dX1_traderValue_64 : decode cX1_traderValue 64 = .ok (.aload_n 0, 1) := by decide +kernel
theorem dX1_traderValue_65 : decode cX1_traderValue 65 = .ok (.getfield 12, 3) := by decide +kernel
theorem dX1_traderValue_68 : decode cX1_traderValue 68 = .ok (.getfield 138, 3) := by decide +kernel
theorem dX1_traderValue_71 : decode cX1_traderValue 71 = .ok (.iload_n 1, 1) := by decide +kernel
theorem dX1_traderValue_72 : decode cX1_traderValue 72 = .ok (.invokevirtual 71, 3) := by decide +kernel
theorem dX1_traderValue_75 : decode cX1_traderValue 75 = .ok (.ireturn, 1) := by decide +kernel
theorem dX1_traderValue_76 : decode cX1_traderValue 76 = .ok (.aload_n 0, 1) := by decide +kernel
theorem dX1_traderValue_77 : decode cX1_traderValue 77 = .ok (.getfield 12, 3) := by decide +kernel
theorem dX1_traderValue_80 : decode cX1_traderValue 80 = .ok (.getfield 141, 3) := by decide +kernel
theorem dX1_traderValue_83 : decode cX1_traderValue 83 = .ok (.iload_n 1, 1) := by decide +kernel
theorem dX1_traderValue_84 : decode cX1_traderValue 84 = .ok (.invokevirtual 71, 3) := by decide +kernel
theorem dX1_traderValue_87 : decode cX1_traderValue 87 = .ok (.ireturn, 1) := by decide +kernel
theorem dX1_traderValue_88 : decode cX1_traderValue 88 = .ok (.aload_n 0, 1) := by decide +kernel
theorem dX1_traderValue_89 : decode cX1_traderValue 89 = .ok (.getfield 12, 3) := by decide +kernel
theorem dX1_traderValue_92 : decode cX1_traderValue 92 = .ok (.getfield 144, 3) := by decide +kernel
theorem dX1_traderValue_95 : decode cX1_traderValue 95 = .ok (.iload_n 1, 1) := by decide +kernel
theorem dX1_traderValue_96 : decode cX1_traderValue 96 = .ok (.invokevirtual 71, 3) := by decide +kernel
theorem dX1_traderValue_99 : decode cX1_traderValue 99 = .ok (.ireturn, 1) := by decide +kernel
theorem dX1_traderValue_100 : decode cX1_traderValue 100 = .ok (.aload_n 0, 1) := by decide +kernel
theorem dX1_traderValue_101 : decode cX1_traderValue 101 = .ok (.getfield 12, 3) := by decide +kernel
theorem dX1_traderValue_104 : decode cX1_traderValue 104 = .ok (.iload_n 1, 1) := by decide +kernel
theorem dX1_traderValue_105 : decode cX1_traderValue 105 = .ok (.invokevirtual 147, 3) := by decide +kernel
theorem dX1_traderValue_108 : decode cX1_traderValue 108 = .ok (.ireturn, 1) := by decide +kernel
theorem dX1_traderValue_109 : decode cX1_traderValue 109 = .ok (.aload_n 0, 1) := by decide +kernel
theorem dX1_traderValue_110 : decode cX1_traderValue 110 = .ok (.getfield 21, 3) := by decide +kernel
theorem dX1_traderValue_113 : decode cX1_traderValue 113 = .ok (.iload_n 1, 1) := by decide +kernel
theorem dX1_traderValue_114 : decode cX1_traderValue 114 = .ok (.invokevirtual 150, 3) := by decide +kernel
theorem dX1_traderValue_117 : decode cX1_traderValue 117 = .ok (.ireturn, 1) := by decide +kernel
theorem dX1_traderValue_118 : decode cX1_traderValue 118 = .ok (.aload_n 0, 1) := by decide +kernel
theorem dX1_traderValue_119 : decode cX1_traderValue 119 = .ok (.getfield 21, 3) := by decide +kernel
theorem dX1_traderValue_122 : decode cX1_traderValue 122 = .ok (.iload_n 1, 1) := by decide +kernel
theorem dX1_traderValue_123 : decode cX1_traderValue 123 = .ok (.invokevirtual 112, 3) := by decide +kernel
theorem dX1_traderValue_126 : decode cX1_traderValue 126 = .ok (.ireturn, 1) := by decide +kernel
theorem dX1_traderValue_127 : decode cX1_traderValue 127 = .ok (.aload_n 0, 1) := by decide +kernel
theorem dX1_traderValue_128 : decode cX1_traderValue 128 = .ok (.getfield 12, 3) := by decide +kernel
theorem dX1_traderValue_131 : decode cX1_traderValue 131 = .ok (.getfield 153, 3) := by decide +kernel
theorem dX1_traderValue_134 : decode cX1_traderValue 134 = .ok (.iload_n 1, 1) := by decide +kernel
theorem dX1_traderValue_135 : decode cX1_traderValue 135 = .ok (.invokevirtual 71, 3) := by decide +kernel
theorem dX1_traderValue_138 : decode cX1_traderValue 138 = .ok (.ireturn, 1) := by decide +kernel
theorem dX1_traderValue_139 : decode cX1_traderValue 139 = .ok (.aload_n 0, 1) := by decide +kernel
theorem dX1_traderValue_140 : decode cX1_traderValue 140 = .ok (.getfield 12, 3) := by decide +kernel
theorem dX1_traderValue_143 : decode cX1_traderValue 143 = .ok (.getfield 155, 3) := by decide +kernel
theorem dX1_traderValue_146 : decode cX1_traderValue 146 = .ok (.iload_n 1, 1) := by decide +kernel
theorem dX1_traderValue_147 : decode cX1_traderValue 147 = .ok (.invokevirtual 71, 3) := by decide +kernel
theorem dX1_traderValue_150 : decode cX1_traderValue 150 = .ok (.ireturn, 1) := by decide +kernel
theorem dX1_traderValue_151 : decode cX1_traderValue 151 = .ok (.aload_n 0, 1) := by decide +kernel
theorem dX1_traderValue_152 : decode cX1_traderValue 152 = .ok (.getfield 12, 3) := by decide +kernel
theorem dX1_traderValue_155 : decode cX1_traderValue 155 = .ok (.getfield 158, 3) := by decide +kernel
theorem dX1_traderValue_158 : decode cX1_traderValue 158 = .ok (.iload_n 1, 1) := by decide +kernel
theorem dX1_traderValue_159 : decode cX1_traderValue 159 = .ok (.invokevirtual 71, 3) := by decide +kernel
theorem dX1_traderValue_162 : decode cX1_traderValue 162 = .ok (.ireturn, 1) := by decide +kernel
theorem dX1_wholeValue_0 : decode cX1_wholeValue 0 = .ok (.iload_n 1, 1) := by decide +kernel
theorem dX1_wholeValue_1 : decode cX1_wholeValue 1 = .ok (.tableswitch 114 0 9 #[55, 63, 71, 76, 81, 86, 91, 96, 101, 106], 55) := by decide +kernel
theorem dX1_wholeValue_56 : decode cX1_wholeValue 56 = .ok (.aload_n 0, 1) := by decide +kernel
theorem dX1_wholeValue_57 : decode cX1_wholeValue 57 = .ok (.getfield 12, 3) := by decide +kernel
theorem dX1_wholeValue_60 : decode cX1_wholeValue 60 = .ok (.getfield 46, 3) := by decide +kernel
theorem dX1_wholeValue_63 : decode cX1_wholeValue 63 = .ok (.ireturn, 1) := by decide +kernel
theorem dX1_wholeValue_64 : decode cX1_wholeValue 64 = .ok (.aload_n 0, 1) := by decide +kernel
theorem dX1_wholeValue_65 : decode cX1_wholeValue 65 = .ok (.getfield 21, 3) := by decide +kernel
theorem dX1_wholeValue_68 : decode cX1_wholeValue 68 = .ok (.getfield 118, 3) := by decide +kernel
theorem dX1_wholeValue_71 : decode cX1_wholeValue 71 = .ok (.ireturn, 1) := by decide +kernel
theorem dX1_wholeValue_72 : decode cX1_wholeValue 72 = .ok (.aload_n 0, 1) := by decide +kernel
theorem dX1_wholeValue_73 : decode cX1_wholeValue 73 = .ok (.getfield 61, 3) := by decide +kernel
theorem dX1_wholeValue_76 : decode cX1_wholeValue 76 = .ok (.ireturn, 1) := by decide +kernel
theorem dX1_wholeValue_77 : decode cX1_wholeValue 77 = .ok (.aload_n 0, 1) := by decide +kernel
theorem dX1_wholeValue_78 : decode cX1_wholeValue 78 = .ok (.getfield 32, 3) := by decide +kernel
theorem dX1_wholeValue_81 : decode cX1_wholeValue 81 = .ok (.ireturn, 1) := by decide +kernel
theorem dX1_wholeValue_82 : decode cX1_wholeValue 82 = .ok (.aload_n 0, 1) := by decide +kernel
theorem dX1_wholeValue_83 : decode cX1_wholeValue 83 = .ok (.getfield 36, 3) := by decide +kernel
theorem dX1_wholeValue_86 : decode cX1_wholeValue 86 = .ok (.ireturn, 1) := by decide +kernel
theorem dX1_wholeValue_87 : decode cX1_wholeValue 87 = .ok (.aload_n 0, 1) := by decide +kernel
theorem dX1_wholeValue_88 : decode cX1_wholeValue 88 = .ok (.getfield 64, 3) := by decide +kernel
theorem dX1_wholeValue_91 : decode cX1_wholeValue 91 = .ok (.ireturn, 1) := by decide +kernel
theorem dX1_wholeValue_92 : decode cX1_wholeValue 92 = .ok (.aload_n 0, 1) := by decide +kernel
theorem dX1_wholeValue_93 : decode cX1_wholeValue 93 = .ok (.getfield 94, 3) := by decide +kernel
theorem dX1_wholeValue_96 : decode cX1_wholeValue 96 = .ok (.ireturn, 1) := by decide +kernel
theorem dX1_wholeValue_97 : decode cX1_wholeValue 97 = .ok (.aload_n 0, 1) := by decide +kernel
theorem dX1_wholeValue_98 : decode cX1_wholeValue 98 = .ok (.getfield 100, 3) := by decide +kernel
theorem dX1_wholeValue_101 : decode cX1_wholeValue 101 = .ok (.ireturn, 1) := by decide +kernel
theorem dX1_wholeValue_102 : decode cX1_wholeValue 102 = .ok (.aload_n 0, 1) := by decide +kernel
theorem dX1_wholeValue_103 : decode cX1_wholeValue 103 = .ok (.getfield 39, 3) := by decide +kernel
theorem dX1_wholeValue_106 : decode cX1_wholeValue 106 = .ok (.ireturn, 1) := by decide +kernel
theorem dX1_wholeValue_107 : decode cX1_wholeValue 107 = .ok (.aload_n 0, 1) := by decide +kernel
theorem dX1_wholeValue_108 : decode cX1_wholeValue 108 = .ok (.getfield 28, 3) := by decide +kernel
theorem dX1_wholeValue_111 : decode cX1_wholeValue 111 = .ok (.getfield 161, 3) := by decide +kernel
theorem dX1_wholeValue_114 : decode cX1_wholeValue 114 = .ok (.ireturn, 1) := by decide +kernel
theorem dX1_wholeValue_115 : decode cX1_wholeValue 115 = .ok (.aload_n 0, 1) := by decide +kernel
theorem dX1_wholeValue_116 : decode cX1_wholeValue 116 = .ok (.getfield 132, 3) := by decide +kernel
theorem dX1_wholeValue_119 : decode cX1_wholeValue 119 = .ok (.ireturn, 1) := by decide +kernel
theorem dX1_copyFrom_0 : decode cX1_copyFrom 0 = .ok (.aload_n 0, 1) := by decide +kernel
theorem dX1_copyFrom_1 : decode cX1_copyFrom 1 = .ok (.getfield 12, 3) := by decide +kernel
theorem dX1_copyFrom_4 : decode cX1_copyFrom 4 = .ok (.aload_n 1, 1) := by decide +kernel
theorem dX1_copyFrom_5 : decode cX1_copyFrom 5 = .ok (.getfield 12, 3) := by decide +kernel
theorem dX1_copyFrom_8 : decode cX1_copyFrom 8 = .ok (.invokevirtual 162, 3) := by decide +kernel
theorem dX1_copyFrom_11 : decode cX1_copyFrom 11 = .ok (.aload_n 0, 1) := by decide +kernel
theorem dX1_copyFrom_12 : decode cX1_copyFrom 12 = .ok (.getfield 21, 3) := by decide +kernel
theorem dX1_copyFrom_15 : decode cX1_copyFrom 15 = .ok (.aload_n 1, 1) := by decide +kernel
theorem dX1_copyFrom_16 : decode cX1_copyFrom 16 = .ok (.getfield 21, 3) := by decide +kernel
theorem dX1_copyFrom_19 : decode cX1_copyFrom 19 = .ok (.invokevirtual 166, 3) := by decide +kernel
theorem dX1_copyFrom_22 : decode cX1_copyFrom 22 = .ok (.aload_n 0, 1) := by decide +kernel
theorem dX1_copyFrom_23 : decode cX1_copyFrom 23 = .ok (.getfield 28, 3) := by decide +kernel
theorem dX1_copyFrom_26 : decode cX1_copyFrom 26 = .ok (.aload_n 1, 1) := by decide +kernel
theorem dX1_copyFrom_27 : decode cX1_copyFrom 27 = .ok (.getfield 28, 3) := by decide +kernel
theorem dX1_copyFrom_30 : decode cX1_copyFrom 30 = .ok (.invokevirtual 169, 3) := by decide +kernel
theorem dX1_copyFrom_33 : decode cX1_copyFrom 33 = .ok (.aload_n 0, 1) := by decide +kernel
theorem dX1_copyFrom_34 : decode cX1_copyFrom 34 = .ok (.aload_n 1, 1) := by decide +kernel
theorem dX1_copyFrom_35 : decode cX1_copyFrom 35 = .ok (.getfield 32, 3) := by decide +kernel
theorem dX1_copyFrom_38 : decode cX1_copyFrom 38 = .ok (.putfield 32, 3) := by decide +kernel
theorem dX1_copyFrom_41 : decode cX1_copyFrom 41 = .ok (.aload_n 0, 1) := by decide +kernel
theorem dX1_copyFrom_42 : decode cX1_copyFrom 42 = .ok (.aload_n 1, 1) := by decide +kernel
theorem dX1_copyFrom_43 : decode cX1_copyFrom 43 = .ok (.getfield 36, 3) := by decide +kernel
theorem dX1_copyFrom_46 : decode cX1_copyFrom 46 = .ok (.putfield 36, 3) := by decide +kernel
theorem dX1_copyFrom_49 : decode cX1_copyFrom 49 = .ok (.aload_n 0, 1) := by decide +kernel
theorem dX1_copyFrom_50 : decode cX1_copyFrom 50 = .ok (.aload_n 1, 1) := by decide +kernel
theorem dX1_copyFrom_51 : decode cX1_copyFrom 51 = .ok (.getfield 61, 3) := by decide +kernel
theorem dX1_copyFrom_54 : decode cX1_copyFrom 54 = .ok (.putfield 61, 3) := by decide +kernel
theorem dX1_copyFrom_57 : decode cX1_copyFrom 57 = .ok (.aload_n 0, 1) := by decide +kernel
theorem dX1_copyFrom_58 : decode cX1_copyFrom 58 = .ok (.aload_n 1, 1) := by decide +kernel
theorem dX1_copyFrom_59 : decode cX1_copyFrom 59 = .ok (.getfield 64, 3) := by decide +kernel
theorem dX1_copyFrom_62 : decode cX1_copyFrom 62 = .ok (.putfield 64, 3) := by decide +kernel
theorem dX1_copyFrom_65 : decode cX1_copyFrom 65 = .ok (.aload_n 0, 1) := by decide +kernel
theorem dX1_copyFrom_66 : decode cX1_copyFrom 66 = .ok (.aload_n 1, 1) := by decide +kernel
theorem dX1_copyFrom_67 : decode cX1_copyFrom 67 = .ok (.getfield 94, 3) := by decide +kernel
theorem dX1_copyFrom_70 : decode cX1_copyFrom 70 = .ok (.putfield 94, 3) := by decide +kernel
theorem dX1_copyFrom_73 : decode cX1_copyFrom 73 = .ok (.aload_n 0, 1) := by decide +kernel
theorem dX1_copyFrom_74 : decode cX1_copyFrom 74 = .ok (.aload_n 1, 1) := by decide +kernel
theorem dX1_copyFrom_75 : decode cX1_copyFrom 75 = .ok (.getfield 100, 3) := by decide +kernel
theorem dX1_copyFrom_78 : decode cX1_copyFrom 78 = .ok (.putfield 100, 3) := by decide +kernel
theorem dX1_copyFrom_81 : decode cX1_copyFrom 81 = .ok (.aload_n 0, 1) := by decide +kernel
theorem dX1_copyFrom_82 : decode cX1_copyFrom 82 = .ok (.aload_n 1, 1) := by decide +kernel
theorem dX1_copyFrom_83 : decode cX1_copyFrom 83 = .ok (.getfield 39, 3) := by decide +kernel
theorem dX1_copyFrom_86 : decode cX1_copyFrom 86 = .ok (.putfield 39, 3) := by decide +kernel
theorem dX1_copyFrom_89 : decode cX1_copyFrom 89 = .ok (.aload_n 0, 1) := by decide +kernel
theorem dX1_copyFrom_90 : decode cX1_copyFrom 90 = .ok (.aload_n 1, 1) := by decide +kernel
theorem dX1_copyFrom_91 : decode cX1_copyFrom 91 = .ok (.getfield 132, 3) := by decide +kernel
theorem dX1_copyFrom_94 : decode cX1_copyFrom 94 = .ok (.putfield 132, 3) := by decide +kernel
theorem dX1_copyFrom_97 : decode cX1_copyFrom 97 = .ok (.return_, 1) := by decide +kernel
theorem dX2_init_0 : decode cX2_init 0 = .ok (.aload_n 0, 1) := by decide +kernel
theorem dX2_init_1 : decode cX2_init 1 = .ok (.invokespecial 3, 3) := by decide +kernel
theorem dX2_init_4 : decode cX2_init 4 = .ok (.aload_n 0, 1) := by decide +kernel
theorem dX2_init_5 : decode cX2_init 5 = .ok (.new 9, 3) := by decide +kernel
theorem dX2_init_8 : decode cX2_init 8 = .ok (.dup, 1) := by decide +kernel
theorem dX2_init_9 : decode cX2_init 9 = .ok (.bipush 20, 2) := by decide +kernel
theorem dX2_init_11 : decode cX2_init 11 = .ok (.invokespecial 11, 3) := by decide +kernel
theorem dX2_init_14 : decode cX2_init 14 = .ok (.putfield 14, 3) := by decide +kernel
theorem dX2_init_17 : decode cX2_init 17 = .ok (.aload_n 0, 1) := by decide +kernel
theorem dX2_init_18 : decode cX2_init 18 = .ok (.new 9, 3) := by decide +kernel
theorem dX2_init_21 : decode cX2_init 21 = .ok (.dup, 1) := by decide +kernel
theorem dX2_init_22 : decode cX2_init 22 = .ok (.bipush 20, 2) := by decide +kernel
theorem dX2_init_24 : decode cX2_init 24 = .ok (.invokespecial 11, 3) := by decide +kernel
theorem dX2_init_27 : decode cX2_init 27 = .ok (.putfield 20, 3) := by decide +kernel
theorem dX2_init_30 : decode cX2_init 30 = .ok (.aload_n 0, 1) := by decide +kernel
theorem dX2_init_31 : decode cX2_init 31 = .ok (.new 9, 3) := by decide +kernel
theorem dX2_init_34 : decode cX2_init 34 = .ok (.dup, 1) := by decide +kernel
theorem dX2_init_35 : decode cX2_init 35 = .ok (.bipush 20, 2) := by decide +kernel
theorem dX2_init_37 : decode cX2_init 37 = .ok (.invokespecial 11, 3) := by decide +kernel
theorem dX2_init_40 : decode cX2_init 40 = .ok (.putfield 23, 3) := by decide +kernel
theorem dX2_init_43 : decode cX2_init 43 = .ok (.aload_n 0, 1) := by decide +kernel
theorem dX2_init_44 : decode cX2_init 44 = .ok (.new 9, 3) := by decide +kernel
theorem dX2_init_47 : decode cX2_init 47 = .ok (.dup, 1) := by decide +kernel
theorem dX2_init_48 : decode cX2_init 48 = .ok (.bipush 121, 2) := by decide +kernel
theorem dX2_init_50 : decode cX2_init 50 = .ok (.invokespecial 11, 3) := by decide +kernel
theorem dX2_init_53 : decode cX2_init 53 = .ok (.putfield 26, 3) := by decide +kernel
theorem dX2_init_56 : decode cX2_init 56 = .ok (.aload_n 0, 1) := by decide +kernel
theorem dX2_init_57 : decode cX2_init 57 = .ok (.new 9, 3) := by decide +kernel
theorem dX2_init_60 : decode cX2_init 60 = .ok (.dup, 1) := by decide +kernel
theorem dX2_init_61 : decode cX2_init 61 = .ok (.bipush 121, 2) := by decide +kernel
theorem dX2_init_63 : decode cX2_init 63 = .ok (.invokespecial 11, 3) := by decide +kernel
theorem dX2_init_66 : decode cX2_init 66 = .ok (.putfield 29, 3) := by decide +kernel
theorem dX2_init_69 : decode cX2_init 69 = .ok (.return_, 1) := by decide +kernel
theorem dX2_settle_0 : decode cX2_settle 0 = .ok (.aload_n 0, 1) := by decide +kernel
theorem dX2_settle_1 : decode cX2_settle 1 = .ok (.aload_n 0, 1) := by decide +kernel
theorem dX2_settle_2 : decode cX2_settle 2 = .ok (.getfield 20, 3) := by decide +kernel
theorem dX2_settle_5 : decode cX2_settle 5 = .ok (.aload_n 1, 1) := by decide +kernel
theorem dX2_settle_6 : decode cX2_settle 6 = .ok (.getfield 32, 3) := by decide +kernel
theorem dX2_settle_9 : decode cX2_settle 9 = .ok (.iconst 0, 1) := by decide +kernel
theorem dX2_settle_10 : decode cX2_settle 10 = .ok (.invokestatic 38, 3) := by decide +kernel
theorem dX2_settle_13 : decode cX2_settle 13 = .ok (.putfield 42, 3) := by decide +kernel
theorem dX2_settle_16 : decode cX2_settle 16 = .ok (.aload_n 0, 1) := by decide +kernel
theorem dX2_settle_17 : decode cX2_settle 17 = .ok (.aload_n 0, 1) := by decide +kernel
theorem dX2_settle_18 : decode cX2_settle 18 = .ok (.getfield 23, 3) := by decide +kernel
theorem dX2_settle_21 : decode cX2_settle 21 = .ok (.aload_n 1, 1) := by decide +kernel
theorem dX2_settle_22 : decode cX2_settle 22 = .ok (.getfield 32, 3) := by decide +kernel
theorem dX2_settle_25 : decode cX2_settle 25 = .ok (.iconst 1, 1) := by decide +kernel
theorem dX2_settle_26 : decode cX2_settle 26 = .ok (.invokestatic 38, 3) := by decide +kernel
theorem dX2_settle_29 : decode cX2_settle 29 = .ok (.putfield 46, 3) := by decide +kernel
theorem dX2_settle_32 : decode cX2_settle 32 = .ok (.aload_n 0, 1) := by decide +kernel
theorem dX2_settle_33 : decode cX2_settle 33 = .ok (.aload_n 1, 1) := by decide +kernel
theorem dX2_settle_34 : decode cX2_settle 34 = .ok (.getfield 32, 3) := by decide +kernel
theorem dX2_settle_37 : decode cX2_settle 37 = .ok (.invokevirtual 49, 3) := by decide +kernel
theorem dX2_settle_40 : decode cX2_settle 40 = .ok (.aload_n 0, 1) := by decide +kernel
theorem dX2_settle_41 : decode cX2_settle 41 = .ok (.aload_n 0, 1) := by decide +kernel
theorem dX2_settle_42 : decode cX2_settle 42 = .ok (.aload_n 1, 1) := by decide +kernel
theorem dX2_settle_43 : decode cX2_settle 43 = .ok (.getfield 53, 3) := by decide +kernel
theorem dX2_settle_46 : decode cX2_settle 46 = .ok (.invokevirtual 56, 3) := by decide +kernel
theorem dX2_settle_49 : decode cX2_settle 49 = .ok (.putfield 60, 3) := by decide +kernel
theorem dX2_settle_52 : decode cX2_settle 52 = .ok (.aload_n 0, 1) := by decide +kernel
theorem dX2_settle_53 : decode cX2_settle 53 = .ok (.aload_n 0, 1) := by decide +kernel
theorem dX2_settle_54 : decode cX2_settle 54 = .ok (.getfield 20, 3) := by decide +kernel
theorem dX2_settle_57 : decode cX2_settle 57 = .ok (.aload_n 0, 1) := by decide +kernel
theorem dX2_settle_58 : decode cX2_settle 58 = .ok (.getfield 42, 3) := by decide +kernel
theorem dX2_settle_61 : decode cX2_settle 61 = .ok (.aload_n 1, 1) := by decide +kernel
theorem dX2_settle_62 : decode cX2_settle 62 = .ok (.getfield 32, 3) := by decide +kernel
theorem dX2_settle_65 : decode cX2_settle 65 = .ok (.invokevirtual 63, 3) := by decide +kernel
theorem dX2_settle_68 : decode cX2_settle 68 = .ok (.aload_n 0, 1) := by decide +kernel
theorem dX2_settle_69 : decode cX2_settle 69 = .ok (.aload_n 0, 1) := by decide +kernel
theorem dX2_settle_70 : decode cX2_settle 70 = .ok (.getfield 23, 3) := by decide +kernel
theorem dX2_settle_73 : decode cX2_settle 73 = .ok (.aload_n 0, 1) := by decide +kernel
theorem dX2_settle_74 : decode cX2_settle 74 = .ok (.getfield 46, 3) := by decide +kernel
theorem dX2_settle_77 : decode cX2_settle 77 = .ok (.aload_n 1, 1) := by decide +kernel
theorem dX2_settle_78 : decode cX2_settle 78 = .ok (.getfield 32, 3) := by decide +kernel
theorem dX2_settle_81 : decode cX2_settle 81 = .ok (.invokevirtual 63, 3) := by decide +kernel
theorem dX2_settle_84 : decode cX2_settle 84 = .ok (.aload_n 0, 1) := by decide +kernel
theorem dX2_settle_85 : decode cX2_settle 85 = .ok (.aload_n 0, 1) := by decide +kernel
theorem dX2_settle_86 : decode cX2_settle 86 = .ok (.aload_n 1, 1) := by decide +kernel
theorem dX2_settle_87 : decode cX2_settle 87 = .ok (.invokevirtual 67, 3) := by decide +kernel
theorem dX2_settle_90 : decode cX2_settle 90 = .ok (.putfield 71, 3) := by decide +kernel
theorem dX2_settle_93 : decode cX2_settle 93 = .ok (.return_, 1) := by decide +kernel
theorem dX2_priceWith_0 : decode cX2_priceWith 0 = .ok (.aload_n 0, 1) := by decide +kernel
theorem dX2_priceWith_1 : decode cX2_priceWith 1 = .ok (.getfield 74, 3) := by decide +kernel
theorem dX2_priceWith_4 : decode cX2_priceWith 4 = .ok (.ifCond .ne 9, 3) := by decide +kernel
theorem dX2_priceWith_7 : decode cX2_priceWith 7 = .ok (.sipush (-10000), 3) := by decide +kernel
theorem dX2_priceWith_10 : decode cX2_priceWith 10 = .ok (.goto 22, 3) := by decide +kernel
theorem dX2_priceWith_13 : decode cX2_priceWith 13 = .ok (.aload_n 0, 1) := by decide +kernel
theorem dX2_priceWith_14 : decode cX2_priceWith 14 = .ok (.getfield 77, 3) := by decide +kernel
theorem dX2_priceWith_17 : decode cX2_priceWith 17 = .ok (.aload_n 0, 1) := by decide +kernel
theorem dX2_priceWith_18 : decode cX2_priceWith 18 = .ok (.getfield 80, 3) := by decide +kernel
theorem dX2_priceWith_21 : decode cX2_priceWith 21 = .ok (.aload_n 0, 1) := by decide +kernel
theorem dX2_priceWith_22 : decode cX2_priceWith 22 = .ok (.getfield 77, 3) := by decide +kernel
theorem dX2_priceWith_25 : decode cX2_priceWith 25 = .ok (.isub, 1) := by decide +kernel
theorem dX2_priceWith_26 : decode cX2_priceWith 26 = .ok (.iload_n 1, 1) := by decide +kernel
theorem dX2_priceWith_27 : decode cX2_priceWith 27 = .ok (.imul, 1) := by decide +kernel
theorem dX2_priceWith_28 : decode cX2_priceWith 28 = .ok (.bipush 10, 2) := by decide +kernel
theorem dX2_priceWith_30 : decode cX2_priceWith 30 = .ok (.idiv, 1) := by decide +kernel
theorem dX2_priceWith_31 : decode cX2_priceWith 31 = .ok (.iadd, 1) := by decide +kernel
theorem dX2_priceWith_32 : decode cX2_priceWith 32 = .ok (.ireturn, 1) := by decide +kernel
theorem dX2_valueOf_0 : decode cX2_valueOf 0 = .ok (.iload_n 2, 1) := by decide +kernel
theorem dX2_valueOf_1 : decode cX2_valueOf 1 = .ok (.tableswitch 70 0 5 #[39, 44, 49, 54, 59, 64], 39) := by decide +kernel
theorem dX2_valueOf_40 : decode cX2_valueOf 40 = .ok (.aload_n 0, 1) := by decide +kernel
theorem dX2_valueOf_41 : decode cX2_valueOf 41 = .ok (.getfield 77, 3) := by decide +kernel
theorem dX2_valueOf_44 : decode cX2_valueOf 44 = .ok (.ireturn, 1) := by decide +kernel
theorem dX2_valueOf_45 : decode cX2_valueOf 45 = .ok (.aload_n 0, 1) := by decide +kernel
theorem dX2_valueOf_46 : decode cX2_valueOf 46 = .ok (.getfield 80, 3) := by decide +kernel
theorem dX2_valueOf_49 : decode cX2_valueOf 49 = .ok (.ireturn, 1) := by decide +kernel
theorem dX2_valueOf_50 : decode cX2_valueOf 50 = .ok (.aload_n 0, 1) := by decide +kernel
theorem dX2_valueOf_51 : decode cX2_valueOf 51 = .ok (.getfield 60, 3) := by decide +kernel
theorem dX2_valueOf_54 : decode cX2_valueOf 54 = .ok (.ireturn, 1) := by decide +kernel
theorem dX2_valueOf_55 : decode cX2_valueOf 55 = .ok (.aload_n 0, 1) := by decide +kernel
theorem dX2_valueOf_56 : decode cX2_valueOf 56 = .ok (.getfield 74, 3) := by decide +kernel
theorem dX2_valueOf_59 : decode cX2_valueOf 59 = .ok (.ireturn, 1) := by decide +kernel
theorem dX2_valueOf_60 : decode cX2_valueOf 60 = .ok (.aload_n 0, 1) := by decide +kernel
theorem dX2_valueOf_61 : decode cX2_valueOf 61 = .ok (.getfield 71, 3) := by decide +kernel
theorem dX2_valueOf_64 : decode cX2_valueOf 64 = .ok (.ireturn, 1) := by decide +kernel
theorem dX2_valueOf_65 : decode cX2_valueOf 65 = .ok (.aload_n 0, 1) := by decide +kernel
theorem dX2_valueOf_66 : decode cX2_valueOf 66 = .ok (.aload_n 1, 1) := by decide +kernel
theorem dX2_valueOf_67 : decode cX2_valueOf 67 = .ok (.invokevirtual 83, 3) := by decide +kernel
theorem dX2_valueOf_70 : decode cX2_valueOf 70 = .ok (.ireturn, 1) := by decide +kernel
theorem dX2_valueOf_71 : decode cX2_valueOf 71 = .ok (.aload_n 0, 1) := by decide +kernel
theorem dX2_valueOf_72 : decode cX2_valueOf 72 = .ok (.aload_n 0, 1) := by decide +kernel
theorem dX2_valueOf_73 : decode cX2_valueOf 73 = .ok (.aload_n 1, 1) := by decide +kernel
theorem dX2_valueOf_74 : decode cX2_valueOf 74 = .ok (.invokevirtual 83, 3) := by decide +kernel
theorem dX2_valueOf_77 : decode cX2_valueOf 77 = .ok (.invokevirtual 86, 3) := by decide +kernel
theorem dX2_valueOf_80 : decode cX2_valueOf 80 = .ok (.ireturn, 1) := by decide +kernel
theorem dX2_reasonOf_0 : decode cX2_reasonOf 0 = .ok (.aload_n 0, 1) := by decide +kernel
theorem dX2_reasonOf_1 : decode cX2_reasonOf 1 = .ok (.getfield 14, 3) := by decide +kernel
theorem dX2_reasonOf_4 : decode cX2_reasonOf 4 = .ok (.iload_n 2, 1) := by decide +kernel
theorem dX2_reasonOf_5 : decode cX2_reasonOf 5 = .ok (.invokevirtual 89, 3) := by decide +kernel
theorem dX2_reasonOf_8 : decode cX2_reasonOf 8 = .ok (.aload_n 1, 1) := by decide +kernel
theorem dX2_reasonOf_9 : decode cX2_reasonOf 9 = .ok (.getfield 92, 3) := by decide +kernel
theorem dX2_reasonOf_12 : decode cX2_reasonOf 12 = .ok (.iload_n 2, 1) := by decide +kernel
theorem dX2_reasonOf_13 : decode cX2_reasonOf 13 = .ok (.invokevirtual 89, 3) := by decide +kernel
theorem dX2_reasonOf_16 : decode cX2_reasonOf 16 = .ok (.if_icmp .ne 5, 3) := by decide +kernel
theorem dX2_reasonOf_19 : decode cX2_reasonOf 19 = .ok (.iconst 0, 1) := by decide +kernel
theorem dX2_reasonOf_20 : decode cX2_reasonOf 20 = .ok (.ireturn, 1) := by decide +kernel
theorem dX2_reasonOf_21 : decode cX2_reasonOf 21 = .ok (.aload_n 0, 1) := by decide +kernel
theorem dX2_reasonOf_22 : decode cX2_reasonOf 22 = .ok (.getfield 74, 3) := by decide +kernel
theorem dX2_reasonOf_25 : decode cX2_reasonOf 25 = .ok (.ifCond .ne 5, 3) := by decide +kernel
theorem dX2_reasonOf_28 : decode cX2_reasonOf 28 = .ok (.iconst 1, 1) := by decide +kernel
theorem dX2_reasonOf_29 : decode cX2_reasonOf 29 = .ok (.ireturn, 1) := by decide +kernel
theorem dX2_reasonOf_30 : decode cX2_reasonOf 30 = .ok (.aload_n 1, 1) := by decide +kernel
theorem dX2_reasonOf_31 : decode cX2_reasonOf 31 = .ok (.iload_n 2, 1) := by decide +kernel
theorem dX2_reasonOf_32 : decode cX2_reasonOf 32 = .ok (.aload_n 0, 1) := by decide +kernel
theorem dX2_reasonOf_33 : decode cX2_reasonOf 33 = .ok (.getfield 60, 3) := by decide +kernel
theorem dX2_reasonOf_36 : decode cX2_reasonOf 36 = .ok (.invokevirtual 97, 3) := by decide +kernel
theorem dX2_reasonOf_39 : decode cX2_reasonOf 39 = .ok (.ifCond .eq 7, 3) := by decide +kernel
theorem dX2_reasonOf_42 : decode cX2_reasonOf 42 = .ok (.iconst 3, 1) := by decide +kernel
theorem dX2_reasonOf_43 : decode cX2_reasonOf 43 = .ok (.goto 4, 3) := by decide +kernel
theorem dX2_reasonOf_46 : decode cX2_reasonOf 46 = .ok (.iconst 2, 1) := by decide +kernel
theorem dX2_reasonOf_47 : decode cX2_reasonOf 47 = .ok (.ireturn, 1) := by decide +kernel
theorem dX2_takenOf_0 : decode cX2_takenOf 0 = .ok (.iconst 0, 1) := by decide +kernel
theorem dX2_takenOf_1 : decode cX2_takenOf 1 = .ok (.istore_n 3, 1) := by decide +kernel
theorem dX2_takenOf_2 : decode cX2_takenOf 2 = .ok (.iconst 0, 1) := by decide +kernel
theorem dX2_takenOf_3 : decode cX2_takenOf 3 = .ok (.istore 4, 2) := by decide +kernel
theorem dX2_takenOf_5 : decode cX2_takenOf 5 = .ok (.iload 4, 2) := by decide +kernel
theorem dX2_takenOf_7 : decode cX2_takenOf 7 = .ok (.aload_n 1, 1) := by decide +kernel
theorem dX2_takenOf_8 : decode cX2_takenOf 8 = .ok (.getfield 101, 3) := by decide +kernel
theorem dX2_takenOf_11 : decode cX2_takenOf 11 = .ok (.if_icmp .ge 34, 3) := by decide +kernel
theorem dX2_takenOf_14 : decode cX2_takenOf 14 = .ok (.aload_n 1, 1) := by decide +kernel
theorem dX2_takenOf_15 : decode cX2_takenOf 15 = .ok (.getfield 104, 3) := by decide +kernel
theorem dX2_takenOf_18 : decode cX2_takenOf 18 = .ok (.iload 4, 2) := by decide +kernel
theorem dX2_takenOf_20 : decode cX2_takenOf 20 = .ok (.invokevirtual 89, 3) := by decide +kernel
theorem dX2_takenOf_23 : decode cX2_takenOf 23 = .ok (.iload_n 2, 1) := by decide +kernel
theorem dX2_takenOf_24 : decode cX2_takenOf 24 = .ok (.if_icmp .ne 15, 3) := by decide +kernel
theorem dX2_takenOf_27 : decode cX2_takenOf 27 = .ok (.iload_n 3, 1) := by decide +kernel
theorem dX2_takenOf_28 : decode cX2_takenOf 28 = .ok (.aload_n 0, 1) := by decide +kernel
theorem dX2_takenOf_29 : decode cX2_takenOf 29 = .ok (.getfield 14, 3) := by decide +kernel
theorem dX2_takenOf_32 : decode cX2_takenOf 32 = .ok (.iload 4, 2) := by decide +kernel
theorem dX2_takenOf_34 : decode cX2_takenOf 34 = .ok (.invokevirtual 89, 3) := by decide +kernel
theorem dX2_takenOf_37 : decode cX2_takenOf 37 = .ok (.iadd, 1) := by decide +kernel
theorem dX2_takenOf_38 : decode cX2_takenOf 38 = .ok (.istore_n 3, 1) := by decide +kernel
theorem dX2_takenOf_39 : decode cX2_takenOf 39 = .ok (.iinc 4 1, 3) := by decide +kernel
theorem dX2_takenOf_42 : decode cX2_takenOf 42 = .ok (.goto (-37), 3) := by decide +kernel
theorem dX2_takenOf_45 : decode cX2_takenOf 45 = .ok (.iload_n 3, 1) := by decide +kernel
theorem dX2_takenOf_46 : decode cX2_takenOf 46 = .ok (.ireturn, 1) := by decide +kernel
theorem dX2_gainOf_0 : decode cX2_gainOf 0 = .ok (.aload_n 0, 1) := by decide +kernel
theorem dX2_gainOf_1 : decode cX2_gainOf 1 = .ok (.aload_n 1, 1) := by decide +kernel
theorem dX2_gainOf_2 : decode cX2_gainOf 2 = .ok (.getfield 32, 3) := by decide +kernel
theorem dX2_gainOf_5 : decode cX2_gainOf 5 = .ok (.iload_n 2, 1) := by decide +kernel
theorem dX2_gainOf_6 : decode cX2_gainOf 6 = .ok (.invokevirtual 107, 3) := by decide +kernel
theorem dX2_gainOf_9 : decode cX2_gainOf 9 = .ok (.aload_n 1, 1) := by decide +kernel
theorem dX2_gainOf_10 : decode cX2_gainOf 10 = .ok (.getfield 111, 3) := by decide +kernel
theorem dX2_gainOf_13 : decode cX2_gainOf 13 = .ok (.iload_n 2, 1) := by decide +kernel
theorem dX2_gainOf_14 : decode cX2_gainOf 14 = .ok (.iload_n 3, 1) := by decide +kernel
theorem dX2_gainOf_15 : decode cX2_gainOf 15 = .ok (.invokevirtual 115, 3) := by decide +kernel
theorem dX2_gainOf_18 : decode cX2_gainOf 18 = .ok (.imul, 1) := by decide +kernel
theorem dX2_gainOf_19 : decode cX2_gainOf 19 = .ok (.ireturn, 1) := by decide +kernel
theorem dX2_pairOff_0 : decode cX2_pairOff 0 = .ok (.aload_n 2, 1) := by decide +kernel
theorem dX2_pairOff_1 : decode cX2_pairOff 1 = .ok (.iconst 0, 1) := by decide +kernel
theorem dX2_pairOff_2 : decode cX2_pairOff 2 = .ok (.putfield 121, 3) := by decide +kernel
theorem dX2_pairOff_5 : decode cX2_pairOff 5 = .ok (.iconst 0, 1) := by decide +kernel
theorem dX2_pairOff_6 : decode cX2_pairOff 6 = .ok (.istore_n 3, 1) := by decide +kernel
theorem dX2_pairOff_7 : decode cX2_pairOff 7 = .ok (.iconst 0, 1) := by decide +kernel
theorem dX2_pairOff_8 : decode cX2_pairOff 8 = .ok (.istore 4, 2) := by decide +kernel
theorem dX2_pairOff_10 : decode cX2_pairOff 10 = .ok (.iconst 0, 1) := by decide +kernel
theorem dX2_pairOff_11 : decode cX2_pairOff 11 = .ok (.istore 5, 2) := by decide +kernel
theorem dX2_pairOff_13 : decode cX2_pairOff 13 = .ok (.iconst 0, 1) := by decide +kernel
theorem dX2_pairOff_14 : decode cX2_pairOff 14 = .ok (.istore 6, 2) := by decide +kernel
theorem dX2_pairOff_16 : decode cX2_pairOff 16 = .ok (.iload_n 3, 1) := by decide +kernel
theorem dX2_pairOff_17 : decode cX2_pairOff 17 = .ok (.aload_n 0, 1) := by decide +kernel
theorem dX2_pairOff_18 : decode cX2_pairOff 18 = .ok (.getfield 42, 3) := by decide +kernel
theorem dX2_pairOff_21 : decode cX2_pairOff 21 = .ok (.if_icmp .ge 134, 3) := by decide +kernel
theorem dX2_pairOff_24 : decode cX2_pairOff 24 = .ok (.iload 4, 2) := by decide +kernel
theorem dX2_pairOff_26 : decode cX2_pairOff 26 = .ok (.aload_n 0, 1) := by decide +kernel
theorem dX2_pairOff_27 : decode cX2_pairOff 27 = .ok (.getfield 46, 3) := by decide +kernel
theorem dX2_pairOff_30 : decode cX2_pairOff 30 = .ok (.if_icmp .ge 125, 3) := by decide +kernel
theorem dX2_pairOff_33 : decode cX2_pairOff 33 = .ok (.aload_n 0, 1) := by decide +kernel
theorem dX2_pairOff_34 : decode cX2_pairOff 34 = .ok (.getfield 14, 3) := by decide +kernel
theorem dX2_pairOff_37 : decode cX2_pairOff 37 = .ok (.aload_n 0, 1) := by decide +kernel
theorem dX2_pairOff_38 : decode cX2_pairOff 38 = .ok (.getfield 20, 3) := by decide +kernel
theorem dX2_pairOff_41 : decode cX2_pairOff 41 = .ok (.iload_n 3, 1) := by decide +kernel
theorem dX2_pairOff_42 : decode cX2_pairOff 42 = .ok (.invokevirtual 89, 3) := by decide +kernel
theorem dX2_pairOff_45 : decode cX2_pairOff 45 = .ok (.invokevirtual 89, 3) := by decide +kernel
theorem dX2_pairOff_48 : decode cX2_pairOff 48 = .ok (.iload 5, 2) := by decide +kernel
theorem dX2_pairOff_50 : decode cX2_pairOff 50 = .ok (.isub, 1) := by decide +kernel
theorem dX2_pairOff_51 : decode cX2_pairOff 51 = .ok (.istore 7, 2) := by decide +kernel
theorem dX2_pairOff_53 : decode cX2_pairOff 53 = .ok (.aload_n 0, 1) := by decide +kernel
theorem dX2_pairOff_54 : decode cX2_pairOff 54 = .ok (.getfield 14, 3) := by decide +kernel
theorem dX2_pairOff_57 : decode cX2_pairOff 57 = .ok (.aload_n 0, 1) := by decide +kernel
theorem dX2_pairOff_58 : decode cX2_pairOff 58 = .ok (.getfield 23, 3) := by decide +kernel
theorem dX2_pairOff_61 : decode cX2_pairOff 61 = .ok (.iload 4, 2) := by decide +kernel
theorem dX2_pairOff_63 : decode cX2_pairOff 63 = .ok (.invokevirtual 89, 3) := by decide +kernel
theorem dX2_pairOff_66 : decode cX2_pairOff 66 = .ok (.invokevirtual 89, 3) := by decide +kernel
theorem dX2_pairOff_69 : decode cX2_pairOff 69 = .ok (.iload 6, 2) := by decide +kernel
theorem dX2_pairOff_71 : decode cX2_pairOff 71 = .ok (.isub, 1) := by decide +kernel
theorem dX2_pairOff_72 : decode cX2_pairOff 72 = .ok (.istore 8, 2) := by decide +kernel
theorem dX2_pairOff_74 : decode cX2_pairOff 74 = .ok (.iload 7, 2) := by decide +kernel
theorem dX2_pairOff_76 : decode cX2_pairOff 76 = .ok (.iload 8, 2) := by decide +kernel
theorem dX2_pairOff_78 : decode cX2_pairOff 78 = .ok (.invokestatic 124, 3) := by decide +kernel
theorem dX2_pairOff_81 : decode cX2_pairOff 81 = .ok (.istore 9, 2) := by decide +kernel
theorem dX2_pairOff_83 : decode cX2_pairOff 83 = .ok (.iload 9, 2) := by decide +kernel
theorem dX2_pairOff_85 : decode cX2_pairOff 85 = .ok (.ifCond .le 27, 3) := by decide +kernel
theorem dX2_pairOff_88 : decode cX2_pairOff 88 = .ok (.aload_n 2, 1) := by decide +kernel
theorem dX2_pairOff_89 : decode cX2_pairOff 89 = .ok (.aload_n 1, 1) := by decide +kernel
theorem dX2_pairOff_90 : decode cX2_pairOff 90 = .ok (.aload_n 0, 1) := by decide +kernel
theorem dX2_pairOff_91 : decode cX2_pairOff 91 = .ok (.getfield 20, 3) := by decide +kernel
theorem dX2_pairOff_94 : decode cX2_pairOff 94 = .ok (.iload_n 3, 1) := by decide +kernel
theorem dX2_pairOff_95 : decode cX2_pairOff 95 = .ok (.invokevirtual 89, 3) := by decide +kernel
theorem dX2_pairOff_98 : decode cX2_pairOff 98 = .ok (.aload_n 0, 1) := by decide +kernel
theorem dX2_pairOff_99 : decode cX2_pairOff 99 = .ok (.getfield 23, 3) := by decide +kernel
theorem dX2_pairOff_102 : decode cX2_pairOff 102 = .ok (.iload 4, 2) := by decide +kernel
theorem dX2_pairOff_104 : decode cX2_pairOff 104 = .ok (.invokevirtual 89, 3) := by decide +kernel
theorem dX2_pairOff_107 : decode cX2_pairOff 107 = .ok (.iload 9, 2) := by decide +kernel
theorem dX2_pairOff_109 : decode cX2_pairOff 109 = .ok (.invokevirtual 129, 3) := by decide +kernel
theorem dX2_pairOff_112 : decode cX2_pairOff 112 = .ok (.iload 5, 2) := by decide +kernel
theorem dX2_pairOff_114 : decode cX2_pairOff 114 = .ok (.iload 9, 2) := by decide +kernel
theorem dX2_pairOff_116 : decode cX2_pairOff 116 = .ok (.iadd, 1) := by decide +kernel
theorem dX2_pairOff_117 : decode cX2_pairOff 117 = .ok (.istore 5, 2) := by decide +kernel
theorem dX2_pairOff_119 : decode cX2_pairOff 119 = .ok (.iload 6, 2) := by decide +kernel
theorem dX2_pairOff_121 : decode cX2_pairOff 121 = .ok (.iload 9, 2) := by decide +kernel
theorem dX2_pairOff_123 : decode cX2_pairOff 123 = .ok (.iadd, 1) := by decide +kernel
theorem dX2_pairOff_124 : decode cX2_pairOff 124 = .ok (.istore 6, 2) := by decide +kernel
theorem dX2_pairOff_126 : decode cX2_pairOff 126 = .ok (.iload 7, 2) := by decide +kernel
theorem dX2_pairOff_128 : decode cX2_pairOff 128 = .ok (.iload 8, 2) := by decide +kernel
theorem dX2_pairOff_130 : decode cX2_pairOff 130 = .ok (.if_icmp .gt 9, 3) := by decide +kernel
theorem dX2_pairOff_133 : decode cX2_pairOff 133 = .ok (.iinc 3 1, 3) := by decide +kernel
theorem dX2_pairOff_136 : decode cX2_pairOff 136 = .ok (.iconst 0, 1) := by decide +kernel
theorem dX2_pairOff_137 : decode cX2_pairOff 137 = .ok (.istore 5, 2) := by decide +kernel
theorem dX2_pairOff_139 : decode cX2_pairOff 139 = .ok (.iload 8, 2) := by decide +kernel
theorem dX2_pairOff_141 : decode cX2_pairOff 141 = .ok (.iload 7, 2) := by decide +kernel
theorem dX2_pairOff_143 : decode cX2_pairOff 143 = .ok (.if_icmp .gt 9, 3) := by decide +kernel
theorem dX2_pairOff_146 : decode cX2_pairOff 146 = .ok (.iinc 4 1, 3) := by decide +kernel
theorem dX2_pairOff_149 : decode cX2_pairOff 149 = .ok (.iconst 0, 1) := by decide +kernel
theorem dX2_pairOff_150 : decode cX2_pairOff 150 = .ok (.istore 6, 2) := by decide +kernel
theorem dX2_pairOff_152 : decode cX2_pairOff 152 = .ok (.goto (-136), 3) := by decide +kernel
theorem dX2_pairOff_155 : decode cX2_pairOff 155 = .ok (.return_, 1) := by decide +kernel
theorem dX2_queueUp_0 : decode cX2_queueUp 0 = .ok (.iconst 0, 1) := by decide +kernel
theorem dX2_queueUp_1 : decode cX2_queueUp 1 = .ok (.istore_n 3, 1) := by decide +kernel
theorem dX2_queueUp_2 : decode cX2_queueUp 2 = .ok (.iconst 0, 1) := by decide +kernel
theorem dX2_queueUp_3 : decode cX2_queueUp 3 = .ok (.istore 4, 2) := by decide +kernel
theorem dX2_queueUp_5 : decode cX2_queueUp 5 = .ok (.iload 4, 2) := by decide +kernel
theorem dX2_queueUp_7 : decode cX2_queueUp 7 = .ok (.aload_n 1, 1) := by decide +kernel
theorem dX2_queueUp_8 : decode cX2_queueUp 8 = .ok (.getfield 101, 3) := by decide +kernel
theorem dX2_queueUp_11 : decode cX2_queueUp 11 = .ok (.if_icmp .ge 78, 3) := by decide +kernel
theorem dX2_queueUp_14 : decode cX2_queueUp 14 = .ok (.aload_n 1, 1) := by decide +kernel
theorem dX2_queueUp_15 : decode cX2_queueUp 15 = .ok (.getfield 133, 3) := by decide +kernel
theorem dX2_queueUp_18 : decode cX2_queueUp 18 = .ok (.iload 4, 2) := by decide +kernel
theorem dX2_queueUp_20 : decode cX2_queueUp 20 = .ok (.invokevirtual 89, 3) := by decide +kernel
theorem dX2_queueUp_23 : decode cX2_queueUp 23 = .ok (.iload_n 2, 1) := by decide +kernel
theorem dX2_queueUp_24 : decode cX2_queueUp 24 = .ok (.if_icmp .ne 59, 3) := by decide +kernel
theorem dX2_queueUp_27 : decode cX2_queueUp 27 = .ok (.iload_n 3, 1) := by decide +kernel
theorem dX2_queueUp_28 : decode cX2_queueUp 28 = .ok (.istore 5, 2) := by decide +kernel
theorem dX2_queueUp_30 : decode cX2_queueUp 30 = .ok (.iload 5, 2) := by decide +kernel
theorem dX2_queueUp_32 : decode cX2_queueUp 32 = .ok (.ifCond .le 40, 3) := by decide +kernel
theorem dX2_queueUp_35 : decode cX2_queueUp 35 = .ok (.aload_n 1, 1) := by decide +kernel
theorem dX2_queueUp_36 : decode cX2_queueUp 36 = .ok (.iload 4, 2) := by decide +kernel
theorem dX2_queueUp_38 : decode cX2_queueUp 38 = .ok (.aload_n 0, 1) := by decide +kernel
theorem dX2_queueUp_39 : decode cX2_queueUp 39 = .ok (.iload 5, 2) := by decide +kernel
theorem dX2_queueUp_41 : decode cX2_queueUp 41 = .ok (.iconst 1, 1) := by decide +kernel
theorem dX2_queueUp_42 : decode cX2_queueUp 42 = .ok (.isub, 1) := by decide +kernel
theorem dX2_queueUp_43 : decode cX2_queueUp 43 = .ok (.invokevirtual 89, 3) := by decide +kernel
theorem dX2_queueUp_46 : decode cX2_queueUp 46 = .ok (.invokevirtual 136, 3) := by decide +kernel
theorem dX2_queueUp_49 : decode cX2_queueUp 49 = .ok (.ifCond .eq 23, 3) := by decide +kernel
theorem dX2_queueUp_52 : decode cX2_queueUp 52 = .ok (.aload_n 0, 1) := by decide +kernel
theorem dX2_queueUp_53 : decode cX2_queueUp 53 = .ok (.iload 5, 2) := by decide +kernel
theorem dX2_queueUp_55 : decode cX2_queueUp 55 = .ok (.aload_n 0, 1) := by decide +kernel
theorem dX2_queueUp_56 : decode cX2_queueUp 56 = .ok (.iload 5, 2) := by decide +kernel
theorem dX2_queueUp_58 : decode cX2_queueUp 58 = .ok (.iconst 1, 1) := by decide +kernel
theorem dX2_queueUp_59 : decode cX2_queueUp 59 = .ok (.isub, 1) := by decide +kernel
theorem dX2_queueUp_60 : decode cX2_queueUp 60 = .ok (.invokevirtual 89, 3) := by decide +kernel
theorem dX2_queueUp_63 : decode cX2_queueUp 63 = .ok (.invokevirtual 139, 3) := by decide +kernel
theorem dX2_queueUp_66 : decode cX2_queueUp 66 = .ok (.iinc 5 (-1), 3) := by decide +kernel
theorem dX2_queueUp_69 : decode cX2_queueUp 69 = .ok (.goto (-39), 3) := by decide +kernel
theorem dX2_queueUp_72 : decode cX2_queueUp 72 = .ok (.aload_n 0, 1) := by decide +kernel
theorem dX2_queueUp_73 : decode cX2_queueUp 73 = .ok (.iload 5, 2) := by decide +kernel
theorem dX2_queueUp_75 : decode cX2_queueUp 75 = .ok (.iload 4, 2) := by decide +kernel
theorem dX2_queueUp_77 : decode cX2_queueUp 77 = .ok (.invokevirtual 139, 3) := by decide +kernel
theorem dX2_queueUp_80 : decode cX2_queueUp 80 = .ok (.iinc 3 1, 3) := by decide +kernel
theorem dX2_queueUp_83 : decode cX2_queueUp 83 = .ok (.iinc 4 1, 3) := by decide +kernel
theorem dX2_queueUp_86 : decode cX2_queueUp 86 = .ok (.goto (-81), 3) := by decide +kernel
theorem dX2_queueUp_89 : decode cX2_queueUp 89 = .ok (.iload_n 3, 1) := by decide +kernel
theorem dX2_queueUp_90 : decode cX2_queueUp 90 = .ok (.ireturn, 1) := by decide +kernel
theorem dX2_findRange_0 : decode cX2_findRange 0 = .ok (.aload_n 0, 1) := by decide +kernel
theorem dX2_findRange_1 : decode cX2_findRange 1 = .ok (.aload_n 1, 1) := by decide +kernel
theorem dX2_findRange_2 : decode cX2_findRange 2 = .ok (.invokevirtual 143, 3) := by decide +kernel
theorem dX2_findRange_5 : decode cX2_findRange 5 = .ok (.istore_n 2, 1) := by decide +kernel
theorem dX2_findRange_6 : decode cX2_findRange 6 = .ok (.iconst 0, 1) := by decide +kernel
theorem dX2_findRange_7 : decode cX2_findRange 7 = .ok (.istore_n 3, 1) := by decide +kernel
theorem dX2_findRange_8 : decode cX2_findRange 8 = .ok (.aload_n 0, 1) := by decide +kernel
theorem dX2_findRange_9 : decode cX2_findRange 9 = .ok (.iconst 0, 1) := by decide +kernel
theorem dX2_findRange_10 : decode cX2_findRange 10 = .ok (.putfield 74, 3) := by decide +kernel
theorem dX2_findRange_13 : decode cX2_findRange 13 = .ok (.aload_n 0, 1) := by decide +kernel
theorem dX2_findRange_14 : decode cX2_findRange 14 = .ok (.sipush (-10000), 3) := by decide +kernel
theorem dX2_findRange_17 : decode cX2_findRange 17 = .ok (.putfield 77, 3) := by decide +kernel
theorem dX2_findRange_20 : decode cX2_findRange 20 = .ok (.aload_n 0, 1) := by decide +kernel
theorem dX2_findRange_21 : decode cX2_findRange 21 = .ok (.sipush (-10000), 3) := by decide +kernel
theorem dX2_findRange_24 : decode cX2_findRange 24 = .ok (.putfield 80, 3) := by decide +kernel
theorem dX2_findRange_27 : decode cX2_findRange 27 = .ok (.iconst 1, 1) := by decide +kernel
theorem dX2_findRange_28 : decode cX2_findRange 28 = .ok (.istore 4, 2) := by decide +kernel
theorem dX2_findRange_30 : decode cX2_findRange 30 = .ok (.iload 4, 2) := by decide +kernel
theorem dX2_findRange_32 : decode cX2_findRange 32 = .ok (.bipush 120, 2) := by decide +kernel
theorem dX2_findRange_34 : decode cX2_findRange 34 = .ok (.if_icmp .gt 85, 3) := by decide +kernel
theorem dX2_findRange_37 : decode cX2_findRange 37 = .ok (.iload_n 2, 1) := by decide +kernel
theorem dX2_findRange_38 : decode cX2_findRange 38 = .ok (.aload_n 0, 1) := by decide +kernel
theorem dX2_findRange_39 : decode cX2_findRange 39 = .ok (.getfield 26, 3) := by decide +kernel
theorem dX2_findRange_42 : decode cX2_findRange 42 = .ok (.iload 4, 2) := by decide +kernel
theorem dX2_findRange_44 : decode cX2_findRange 44 = .ok (.iconst 1, 1) := by decide +kernel
theorem dX2_findRange_45 : decode cX2_findRange 45 = .ok (.isub, 1) := by decide +kernel
theorem dX2_findRange_46 : decode cX2_findRange 46 = .ok (.invokevirtual 89, 3) := by decide +kernel
theorem dX2_findRange_49 : decode cX2_findRange 49 = .ok (.isub, 1) := by decide +kernel
theorem dX2_findRange_50 : decode cX2_findRange 50 = .ok (.istore_n 2, 1) := by decide +kernel
theorem dX2_findRange_51 : decode cX2_findRange 51 = .ok (.iload_n 3, 1) := by decide +kernel
theorem dX2_findRange_52 : decode cX2_findRange 52 = .ok (.aload_n 0, 1) := by decide +kernel
theorem dX2_findRange_53 : decode cX2_findRange 53 = .ok (.getfield 29, 3) := by decide +kernel
theorem dX2_findRange_56 : decode cX2_findRange 56 = .ok (.iload 4, 2) := by decide +kernel
theorem dX2_findRange_58 : decode cX2_findRange 58 = .ok (.invokevirtual 89, 3) := by decide +kernel
theorem dX2_findRange_61 : decode cX2_findRange 61 = .ok (.iadd, 1) := by decide +kernel
theorem dX2_findRange_62 : decode cX2_findRange 62 = .ok (.istore_n 3, 1) := by decide +kernel
theorem dX2_findRange_63 : decode cX2_findRange 63 = .ok (.iload_n 2, 1) := by decide +kernel
theorem dX2_findRange_64 : decode cX2_findRange 64 = .ok (.iload_n 3, 1) := by decide +kernel
theorem dX2_findRange_65 : decode cX2_findRange 65 = .ok (.invokestatic 124, 3) := by decide +kernel
theorem dX2_findRange_68 : decode cX2_findRange 68 = .ok (.istore 5, 2) := by decide +kernel
theorem dX2_findRange_70 : decode cX2_findRange 70 = .ok (.iload 5, 2) := by decide +kernel
theorem dX2_findRange_72 : decode cX2_findRange 72 = .ok (.aload_n 0, 1) := by decide +kernel
theorem dX2_findRange_73 : decode cX2_findRange 73 = .ok (.getfield 74, 3) := by decide +kernel
theorem dX2_findRange_76 : decode cX2_findRange 76 = .ok (.if_icmp .le 15, 3) := by decide +kernel
theorem dX2_findRange_79 : decode cX2_findRange 79 = .ok (.aload_n 0, 1) := by decide +kernel
theorem dX2_findRange_80 : decode cX2_findRange 80 = .ok (.iload 5, 2) := by decide +kernel
theorem dX2_findRange_82 : decode cX2_findRange 82 = .ok (.putfield 74, 3) := by decide +kernel
theorem dX2_findRange_85 : decode cX2_findRange 85 = .ok (.aload_n 0, 1) := by decide +kernel
theorem dX2_findRange_86 : decode cX2_findRange 86 = .ok (.iload 4, 2) := by decide +kernel
theorem dX2_findRange_88 : decode cX2_findRange 88 = .ok (.putfield 77, 3) := by decide +kernel
theorem dX2_findRange_91 : decode cX2_findRange 91 = .ok (.iload 5, 2) := by decide +kernel
theorem dX2_findRange_93 : decode cX2_findRange 93 = .ok (.aload_n 0, 1) := by decide +kernel
theorem dX2_findRange_94 : decode cX2_findRange 94 = .ok (.getfield 74, 3) := by decide +kernel
theorem dX2_findRange_97 : decode cX2_findRange 97 = .ok (.if_icmp .ne 16, 3) := by decide +kernel
theorem dX2_findRange_100 : decode cX2_findRange 100 = .ok (.aload_n 0, 1) := by decide +kernel
theorem dX2_findRange_101 : decode cX2_findRange 101 = .ok (.getfield 74, 3) := by decide +kernel
theorem dX2_findRange_104 : decode cX2_findRange 104 = .ok (.ifCond .le 9, 3) := by decide +kernel
theorem dX2_findRange_107 : decode cX2_findRange 107 = .ok (.aload_n 0, 1) := by decide +kernel
theorem dX2_findRange_108 : decode cX2_findRange 108 = .ok (.iload 4, 2) := by decide +kernel
theorem dX2_findRange_110 : decode cX2_findRange 110 = .ok (.putfield 80, 3) := by decide +kernel
theorem dX2_findRange_113 : decode cX2_findRange 113 = .ok (.iinc 4 1, 3) := by decide +kernel
theorem dX2_findRange_116 : decode cX2_findRange 116 = .ok (.goto (-86), 3) := by decide +kernel
theorem dX2_findRange_119 : decode cX2_findRange 119 = .ok (.return_, 1) := by decide +kernel
theorem dX2_tallyPrices_0 : decode cX2_tallyPrices 0 = .ok (.aload_n 0, 1) := by decide +kernel
theorem dX2_tallyPrices_1 : decode cX2_tallyPrices 1 = .ok (.getfield 26, 3) := by decide +kernel
theorem dX2_tallyPrices_4 : decode cX2_tallyPrices 4 = .ok (.invokevirtual 147, 3) := by decide +kernel
theorem dX2_tallyPrices_7 : decode cX2_tallyPrices 7 = .ok (.aload_n 0, 1) := by decide +kernel
theorem dX2_tallyPrices_8 : decode cX2_tallyPrices 8 = .ok (.getfield 29, 3) := by decide +kernel
theorem dX2_tallyPrices_11 : decode cX2_tallyPrices 11 = .ok (.invokevirtual 147, 3) := by decide +kernel
theorem dX2_tallyPrices_14 : decode cX2_tallyPrices 14 = .ok (.iconst 0, 1) := by decide +kernel
theorem dX2_tallyPrices_15 : decode cX2_tallyPrices 15 = .ok (.istore_n 2, 1) := by decide +kernel
theorem dX2_tallyPrices_16 : decode cX2_tallyPrices 16 = .ok (.iconst 0, 1) := by decide +kernel
theorem dX2_tallyPrices_17 : decode cX2_tallyPrices 17 = .ok (.istore_n 3, 1) := by decide +kernel
theorem dX2_tallyPrices_18 : decode cX2_tallyPrices 18 = .ok (.iload_n 3, 1) := by decide +kernel
theorem dX2_tallyPrices_19 : decode cX2_tallyPrices 19 = .ok (.aload_n 1, 1) := by decide +kernel
theorem dX2_tallyPrices_20 : decode cX2_tallyPrices 20 = .ok (.getfield 101, 3) := by decide +kernel
theorem dX2_tallyPrices_23 : decode cX2_tallyPrices 23 = .ok (.if_icmp .ge 80, 3) := by decide +kernel
theorem dX2_tallyPrices_26 : decode cX2_tallyPrices 26 = .ok (.aload_n 1, 1) := by decide +kernel
theorem dX2_tallyPrices_27 : decode cX2_tallyPrices 27 = .ok (.getfield 133, 3) := by decide +kernel
theorem dX2_tallyPrices_30 : decode cX2_tallyPrices 30 = .ok (.iload_n 3, 1) := by decide +kernel
theorem dX2_tallyPrices_31 : decode cX2_tallyPrices 31 = .ok (.invokevirtual 89, 3) := by decide +kernel
theorem dX2_tallyPrices_34 : decode cX2_tallyPrices 34 = .ok (.ifCond .ne 40, 3) := by decide +kernel
theorem dX2_tallyPrices_37 : decode cX2_tallyPrices 37 = .ok (.aload_n 0, 1) := by decide +kernel
theorem dX2_tallyPrices_38 : decode cX2_tallyPrices 38 = .ok (.getfield 26, 3) := by decide +kernel
theorem dX2_tallyPrices_41 : decode cX2_tallyPrices 41 = .ok (.aload_n 1, 1) := by decide +kernel
theorem dX2_tallyPrices_42 : decode cX2_tallyPrices 42 = .ok (.getfield 150, 3) := by decide +kernel
theorem dX2_tallyPrices_45 : decode cX2_tallyPrices 45 = .ok (.iload_n 3, 1) := by decide +kernel
theorem dX2_tallyPrices_46 : decode cX2_tallyPrices 46 = .ok (.invokevirtual 89, 3) := by decide +kernel
theorem dX2_tallyPrices_49 : decode cX2_tallyPrices 49 = .ok (.aload_n 1, 1) := by decide +kernel
theorem dX2_tallyPrices_50 : decode cX2_tallyPrices 50 = .ok (.getfield 92, 3) := by decide +kernel
theorem dX2_tallyPrices_53 : decode cX2_tallyPrices 53 = .ok (.iload_n 3, 1) := by decide +kernel
theorem dX2_tallyPrices_54 : decode cX2_tallyPrices 54 = .ok (.invokevirtual 89, 3) := by decide +kernel
theorem dX2_tallyPrices_57 : decode cX2_tallyPrices 57 = .ok (.invokevirtual 152, 3) := by decide +kernel
theorem dX2_tallyPrices_60 : decode cX2_tallyPrices 60 = .ok (.iload_n 2, 1) := by decide +kernel
theorem dX2_tallyPrices_61 : decode cX2_tallyPrices 61 = .ok (.aload_n 1, 1) := by decide +kernel
theorem dX2_tallyPrices_62 : decode cX2_tallyPrices 62 = .ok (.getfield 92, 3) := by decide +kernel
theorem dX2_tallyPrices_65 : decode cX2_tallyPrices 65 = .ok (.iload_n 3, 1) := by decide +kernel
theorem dX2_tallyPrices_66 : decode cX2_tallyPrices 66 = .ok (.invokevirtual 89, 3) := by decide +kernel
theorem dX2_tallyPrices_69 : decode cX2_tallyPrices 69 = .ok (.iadd, 1) := by decide +kernel
theorem dX2_tallyPrices_70 : decode cX2_tallyPrices 70 = .ok (.istore_n 2, 1) := by decide +kernel
theorem dX2_tallyPrices_71 : decode cX2_tallyPrices 71 = .ok (.goto 26, 3) := by decide +kernel
theorem dX2_tallyPrices_74 : decode cX2_tallyPrices 74 = .ok (.aload_n 0, 1) := by decide +kernel
theorem dX2_tallyPrices_75 : decode cX2_tallyPrices 75 = .ok (.getfield 29, 3) := by decide +kernel
theorem dX2_tallyPrices_78 : decode cX2_tallyPrices 78 = .ok (.aload_n 1, 1) := by decide +kernel
theorem dX2_tallyPrices_79 : decode cX2_tallyPrices 79 = .ok (.getfield 150, 3) := by decide +kernel
theorem dX2_tallyPrices_82 : decode cX2_tallyPrices 82 = .ok (.iload_n 3, 1) := by decide +kernel
theorem dX2_tallyPrices_83 : decode cX2_tallyPrices 83 = .ok (.invokevirtual 89, 3) := by decide +kernel
theorem dX2_tallyPrices_86 : decode cX2_tallyPrices 86 = .ok (.aload_n 1, 1) := by decide +kernel
theorem dX2_tallyPrices_87 : decode cX2_tallyPrices 87 = .ok (.getfield 92, 3) := by decide +kernel
theorem dX2_tallyPrices_90 : decode cX2_tallyPrices 90 = .ok (.iload_n 3, 1) := by decide +kernel
theorem dX2_tallyPrices_91 : decode cX2_tallyPrices 91 = .ok (.invokevirtual 89, 3) := by decide +kernel
theorem dX2_tallyPrices_94 : decode cX2_tallyPrices 94 = .ok (.invokevirtual 152, 3) := by decide +kernel
theorem dX2_tallyPrices_97 : decode cX2_tallyPrices 97 = .ok (.iinc 3 1, 3) := by decide +kernel
theorem dX2_tallyPrices_100 : decode cX2_tallyPrices 100 = .ok (.goto (-82), 3) := by decide +kernel
theorem dX2_tallyPrices_103 : decode cX2_tallyPrices 103 = .ok (.iload_n 2, 1) := by decide +kernel
theorem dX2_tallyPrices_104 : decode cX2_tallyPrices 104 = .ok (.ireturn, 1) := by decide +kernel
theorem dX2_take_0 : decode cX2_take 0 = .ok (.aload_n 0, 1) := by decide +kernel
theorem dX2_take_1 : decode cX2_take 1 = .ok (.getfield 74, 3) := by decide +kernel
theorem dX2_take_4 : decode cX2_take 4 = .ok (.istore 4, 2) := by decide +kernel
theorem dX2_take_6 : decode cX2_take 6 = .ok (.iconst 0, 1) := by decide +kernel
theorem dX2_take_7 : decode cX2_take 7 = .ok (.istore 5, 2) := by decide +kernel
theorem dX2_take_9 : decode cX2_take 9 = .ok (.iload 5, 2) := by decide +kernel
theorem dX2_take_11 : decode cX2_take 11 = .ok (.iload_n 2, 1) := by decide +kernel
theorem dX2_take_12 : decode cX2_take 12 = .ok (.if_icmp .ge 51, 3) := by decide +kernel
theorem dX2_take_15 : decode cX2_take 15 = .ok (.aload_n 1, 1) := by decide +kernel
theorem dX2_take_16 : decode cX2_take 16 = .ok (.iload 5, 2) := by decide +kernel
theorem dX2_take_18 : decode cX2_take 18 = .ok (.invokevirtual 89, 3) := by decide +kernel
theorem dX2_take_21 : decode cX2_take 21 = .ok (.istore 6, 2) := by decide +kernel
theorem dX2_take_23 : decode cX2_take 23 = .ok (.iload 4, 2) := by decide +kernel
theorem dX2_take_25 : decode cX2_take 25 = .ok (.aload_n 3, 1) := by decide +kernel
theorem dX2_take_26 : decode cX2_take 26 = .ok (.getfield 92, 3) := by decide +kernel
theorem dX2_take_29 : decode cX2_take 29 = .ok (.iload 6, 2) := by decide +kernel
theorem dX2_take_31 : decode cX2_take 31 = .ok (.invokevirtual 89, 3) := by decide +kernel
theorem dX2_take_34 : decode cX2_take 34 = .ok (.invokestatic 124, 3) := by decide +kernel
theorem dX2_take_37 : decode cX2_take 37 = .ok (.istore 7, 2) := by decide +kernel
theorem dX2_take_39 : decode cX2_take 39 = .ok (.aload_n 0, 1) := by decide +kernel
theorem dX2_take_40 : decode cX2_take 40 = .ok (.getfield 14, 3) := by decide +kernel
theorem dX2_take_43 : decode cX2_take 43 = .ok (.iload 6, 2) := by decide +kernel
theorem dX2_take_45 : decode cX2_take 45 = .ok (.iload 7, 2) := by decide +kernel
theorem dX2_take_47 : decode cX2_take 47 = .ok (.invokevirtual 139, 3) := by decide +kernel
theorem dX2_take_50 : decode cX2_take 50 = .ok (.iload 4, 2) := by decide +kernel
theorem dX2_take_52 : decode cX2_take 52 = .ok (.iload 7, 2) := by decide +kernel
theorem dX2_take_54 : decode cX2_take 54 = .ok (.isub, 1) := by decide +kernel
theorem dX2_take_55 : decode cX2_take 55 = .ok (.istore 4, 2) := by decide +kernel
theorem dX2_take_57 : decode cX2_take 57 = .ok (.iinc 5 1, 3) := by decide +kernel
theorem dX2_take_60 : decode cX2_take 60 = .ok (.goto (-51), 3) := by decide +kernel
theorem dX2_take_63 : decode cX2_take 63 = .ok (.return_, 1) := by decide +kernel
theorem dX2_sumSurplus_0 : decode cX2_sumSurplus 0 = .ok (.iconst 0, 1) := by decide +kernel
theorem dX2_sumSurplus_1 : decode cX2_sumSurplus 1 = .ok (.istore_n 2, 1) := by decide +kernel
theorem dX2_sumSurplus_2 : decode cX2_sumSurplus 2 = .ok (.iconst 0, 1) := by decide +kernel
theorem dX2_sumSurplus_3 : decode cX2_sumSurplus 3 = .ok (.istore_n 3, 1) := by decide +kernel
theorem dX2_sumSurplus_4 : decode cX2_sumSurplus 4 = .ok (.iload_n 3, 1) := by decide +kernel
theorem dX2_sumSurplus_5 : decode cX2_sumSurplus 5 = .ok (.aload_n 1, 1) := by decide +kernel
theorem dX2_sumSurplus_6 : decode cX2_sumSurplus 6 = .ok (.getfield 32, 3) := by decide +kernel
theorem dX2_sumSurplus_9 : decode cX2_sumSurplus 9 = .ok (.getfield 101, 3) := by decide +kernel
theorem dX2_sumSurplus_12 : decode cX2_sumSurplus 12 = .ok (.if_icmp .ge 66, 3) := by decide +kernel
theorem dX2_sumSurplus_15 : decode cX2_sumSurplus 15 = .ok (.aload_n 1, 1) := by decide +kernel
theorem dX2_sumSurplus_16 : decode cX2_sumSurplus 16 = .ok (.getfield 111, 3) := by decide +kernel
theorem dX2_sumSurplus_19 : decode cX2_sumSurplus 19 = .ok (.getfield 155, 3) := by decide +kernel
theorem dX2_sumSurplus_22 : decode cX2_sumSurplus 22 = .ok (.aload_n 1, 1) := by decide +kernel
theorem dX2_sumSurplus_23 : decode cX2_sumSurplus 23 = .ok (.getfield 32, 3) := by decide +kernel
theorem dX2_sumSurplus_26 : decode cX2_sumSurplus 26 = .ok (.getfield 104, 3) := by decide +kernel
theorem dX2_sumSurplus_29 : decode cX2_sumSurplus 29 = .ok (.iload_n 3, 1) := by decide +kernel
theorem dX2_sumSurplus_30 : decode cX2_sumSurplus 30 = .ok (.invokevirtual 89, 3) := by decide +kernel
theorem dX2_sumSurplus_33 : decode cX2_sumSurplus 33 = .ok (.invokevirtual 89, 3) := by decide +kernel
theorem dX2_sumSurplus_36 : decode cX2_sumSurplus 36 = .ok (.aload_n 0, 1) := by decide +kernel
theorem dX2_sumSurplus_37 : decode cX2_sumSurplus 37 = .ok (.getfield 14, 3) := by decide +kernel
theorem dX2_sumSurplus_40 : decode cX2_sumSurplus 40 = .ok (.iload_n 3, 1) := by decide +kernel
theorem dX2_sumSurplus_41 : decode cX2_sumSurplus 41 = .ok (.invokevirtual 89, 3) := by decide +kernel
theorem dX2_sumSurplus_44 : decode cX2_sumSurplus 44 = .ok (.imul, 1) := by decide +kernel
theorem dX2_sumSurplus_45 : decode cX2_sumSurplus 45 = .ok (.istore 4, 2) := by decide +kernel
theorem dX2_sumSurplus_47 : decode cX2_sumSurplus 47 = .ok (.iload_n 2, 1) := by decide +kernel
theorem dX2_sumSurplus_48 : decode cX2_sumSurplus 48 = .ok (.aload_n 1, 1) := by decide +kernel
theorem dX2_sumSurplus_49 : decode cX2_sumSurplus 49 = .ok (.getfield 32, 3) := by decide +kernel
theorem dX2_sumSurplus_52 : decode cX2_sumSurplus 52 = .ok (.getfield 133, 3) := by decide +kernel
theorem dX2_sumSurplus_55 : decode cX2_sumSurplus 55 = .ok (.iload_n 3, 1) := by decide +kernel
theorem dX2_sumSurplus_56 : decode cX2_sumSurplus 56 = .ok (.invokevirtual 89, 3) := by decide +kernel
theorem dX2_sumSurplus_59 : decode cX2_sumSurplus 59 = .ok (.ifCond .ne 8, 3) := by decide +kernel
theorem dX2_sumSurplus_62 : decode cX2_sumSurplus 62 = .ok (.iload 4, 2) := by decide +kernel
theorem dX2_sumSurplus_64 : decode cX2_sumSurplus 64 = .ok (.goto 6, 3) := by decide +kernel
theorem dX2_sumSurplus_67 : decode cX2_sumSurplus 67 = .ok (.iload 4, 2) := by decide +kernel
theorem dX2_sumSurplus_69 : decode cX2_sumSurplus 69 = .ok (.ineg, 1) := by decide +kernel
theorem dX2_sumSurplus_70 : decode cX2_sumSurplus 70 = .ok (.iadd, 1) := by decide +kernel
theorem dX2_sumSurplus_71 : decode cX2_sumSurplus 71 = .ok (.istore_n 2, 1) := by decide +kernel
theorem dX2_sumSurplus_72 : decode cX2_sumSurplus 72 = .ok (.iinc 3 1, 3) := by decide +kernel
theorem dX2_sumSurplus_75 : decode cX2_sumSurplus 75 = .ok (.goto (-71), 3) := by decide +kernel
theorem dX2_sumSurplus_78 : decode cX2_sumSurplus 78 = .ok (.iload_n 2, 1) := by decide +kernel
theorem dX2_sumSurplus_79 : decode cX2_sumSurplus 79 = .ok (.ireturn, 1) := by decide +kernel
theorem dX2_findGreatest_0 : decode cX2_findGreatest 0 = .ok (.aload_n 0, 1) := by decide +kernel
theorem dX2_findGreatest_1 : decode cX2_findGreatest 1 = .ok (.aload_n 1, 1) := by decide +kernel
theorem dX2_findGreatest_2 : decode cX2_findGreatest 2 = .ok (.invokevirtual 158, 3) := by decide +kernel
theorem dX2_findGreatest_5 : decode cX2_findGreatest 5 = .ok (.bipush 99, 2) := by decide +kernel
theorem dX2_findGreatest_7 : decode cX2_findGreatest 7 = .ok (.istore_n 2, 1) := by decide +kernel
theorem dX2_findGreatest_8 : decode cX2_findGreatest 8 = .ok (.iconst 1, 1) := by decide +kernel
theorem dX2_findGreatest_9 : decode cX2_findGreatest 9 = .ok (.istore_n 3, 1) := by decide +kernel
theorem dX2_findGreatest_10 : decode cX2_findGreatest 10 = .ok (.iconst 0, 1) := by decide +kernel
theorem dX2_findGreatest_11 : decode cX2_findGreatest 11 = .ok (.istore 4, 2) := by decide +kernel
theorem dX2_findGreatest_13 : decode cX2_findGreatest 13 = .ok (.iload_n 2, 1) := by decide +kernel
theorem dX2_findGreatest_14 : decode cX2_findGreatest 14 = .ok (.iload_n 3, 1) := by decide +kernel
theorem dX2_findGreatest_15 : decode cX2_findGreatest 15 = .ok (.if_icmp .le 80, 3) := by decide +kernel
theorem dX2_findGreatest_18 : decode cX2_findGreatest 18 = .ok (.aload_n 0, 1) := by decide +kernel
theorem dX2_findGreatest_19 : decode cX2_findGreatest 19 = .ok (.getfield 26, 3) := by decide +kernel
theorem dX2_findGreatest_22 : decode cX2_findGreatest 22 = .ok (.iload_n 2, 1) := by decide +kernel
theorem dX2_findGreatest_23 : decode cX2_findGreatest 23 = .ok (.invokevirtual 89, 3) := by decide +kernel
theorem dX2_findGreatest_26 : decode cX2_findGreatest 26 = .ok (.aload_n 0, 1) := by decide +kernel
theorem dX2_findGreatest_27 : decode cX2_findGreatest 27 = .ok (.getfield 29, 3) := by decide +kernel
theorem dX2_findGreatest_30 : decode cX2_findGreatest 30 = .ok (.iload_n 3, 1) := by decide +kernel
theorem dX2_findGreatest_31 : decode cX2_findGreatest 31 = .ok (.invokevirtual 89, 3) := by decide +kernel
theorem dX2_findGreatest_34 : decode cX2_findGreatest 34 = .ok (.invokestatic 124, 3) := by decide +kernel
theorem dX2_findGreatest_37 : decode cX2_findGreatest 37 = .ok (.istore 5, 2) := by decide +kernel
theorem dX2_findGreatest_39 : decode cX2_findGreatest 39 = .ok (.iload 4, 2) := by decide +kernel
theorem dX2_findGreatest_41 : decode cX2_findGreatest 41 = .ok (.iload 5, 2) := by decide +kernel
theorem dX2_findGreatest_43 : decode cX2_findGreatest 43 = .ok (.iload_n 2, 1) := by decide +kernel
theorem dX2_findGreatest_44 : decode cX2_findGreatest 44 = .ok (.iload_n 3, 1) := by decide +kernel
theorem dX2_findGreatest_45 : decode cX2_findGreatest 45 = .ok (.isub, 1) := by decide +kernel
theorem dX2_findGreatest_46 : decode cX2_findGreatest 46 = .ok (.imul, 1) := by decide +kernel
theorem dX2_findGreatest_47 : decode cX2_findGreatest 47 = .ok (.iadd, 1) := by decide +kernel
theorem dX2_findGreatest_48 : decode cX2_findGreatest 48 = .ok (.istore 4, 2) := by decide +kernel
theorem dX2_findGreatest_50 : decode cX2_findGreatest 50 = .ok (.aload_n 0, 1) := by decide +kernel
theorem dX2_findGreatest_51 : decode cX2_findGreatest 51 = .ok (.getfield 26, 3) := by decide +kernel
theorem dX2_findGreatest_54 : decode cX2_findGreatest 54 = .ok (.iload_n 2, 1) := by decide +kernel
theorem dX2_findGreatest_55 : decode cX2_findGreatest 55 = .ok (.iload 5, 2) := by decide +kernel
theorem dX2_findGreatest_57 : decode cX2_findGreatest 57 = .ok (.ineg, 1) := by decide +kernel
theorem dX2_findGreatest_58 : decode cX2_findGreatest 58 = .ok (.invokevirtual 152, 3) := by decide +kernel
theorem dX2_findGreatest_61 : decode cX2_findGreatest 61 = .ok (.aload_n 0, 1) := by decide +kernel
theorem dX2_findGreatest_62 : decode cX2_findGreatest 62 = .ok (.getfield 29, 3) := by decide +kernel
theorem dX2_findGreatest_65 : decode cX2_findGreatest 65 = .ok (.iload_n 3, 1) := by decide +kernel
theorem dX2_findGreatest_66 : decode cX2_findGreatest 66 = .ok (.iload 5, 2) := by decide +kernel
theorem dX2_findGreatest_68 : decode cX2_findGreatest 68 = .ok (.ineg, 1) := by decide +kernel
theorem dX2_findGreatest_69 : decode cX2_findGreatest 69 = .ok (.invokevirtual 152, 3) := by decide +kernel
theorem dX2_findGreatest_72 : decode cX2_findGreatest 72 = .ok (.aload_n 0, 1) := by decide +kernel
theorem dX2_findGreatest_73 : decode cX2_findGreatest 73 = .ok (.getfield 26, 3) := by decide +kernel
theorem dX2_findGreatest_76 : decode cX2_findGreatest 76 = .ok (.iload_n 2, 1) := by decide +kernel
theorem dX2_findGreatest_77 : decode cX2_findGreatest 77 = .ok (.invokevirtual 89, 3) := by decide +kernel
theorem dX2_findGreatest_80 : decode cX2_findGreatest 80 = .ok (.ifCond .ne 9, 3) := by decide +kernel
theorem dX2_findGreatest_83 : decode cX2_findGreatest 83 = .ok (.iinc 2 (-1), 3) := by decide +kernel
theorem dX2_findGreatest_86 : decode cX2_findGreatest 86 = .ok (.goto 6, 3) := by decide +kernel
theorem dX2_findGreatest_89 : decode cX2_findGreatest 89 = .ok (.iinc 3 1, 3) := by decide +kernel
theorem dX2_findGreatest_92 : decode cX2_findGreatest 92 = .ok (.goto (-79), 3) := by decide +kernel
theorem dX2_findGreatest_95 : decode cX2_findGreatest 95 = .ok (.iload 4, 2) := by decide +kernel
theorem dX2_findGreatest_97 : decode cX2_findGreatest 97 = .ok (.ireturn, 1) := by decide +kernel
theorem dX2_tallyValues_0 : decode cX2_tallyValues 0 = .ok (.aload_n 0, 1) := by decide +kernel
theorem dX2_tallyValues_1 : decode cX2_tallyValues 1 = .ok (.getfield 26, 3) := by decide +kernel
theorem dX2_tallyValues_4 : decode cX2_tallyValues 4 = .ok (.invokevirtual 147, 3) := by decide +kernel
theorem dX2_tallyValues_7 : decode cX2_tallyValues 7 = .ok (.aload_n 0, 1) := by decide +kernel
theorem dX2_tallyValues_8 : decode cX2_tallyValues 8 = .ok (.getfield 29, 3) := by decide +kernel
theorem dX2_tallyValues_11 : decode cX2_tallyValues 11 = .ok (.invokevirtual 147, 3) := by decide +kernel
theorem dX2_tallyValues_14 : decode cX2_tallyValues 14 = .ok (.iconst 0, 1) := by decide +kernel
theorem dX2_tallyValues_15 : decode cX2_tallyValues 15 = .ok (.istore_n 2, 1) := by decide +kernel
theorem dX2_tallyValues_16 : decode cX2_tallyValues 16 = .ok (.iload_n 2, 1) := by decide +kernel
theorem dX2_tallyValues_17 : decode cX2_tallyValues 17 = .ok (.aload_n 1, 1) := by decide +kernel
theorem dX2_tallyValues_18 : decode cX2_tallyValues 18 = .ok (.getfield 32, 3) := by decide +kernel
theorem dX2_tallyValues_21 : decode cX2_tallyValues 21 = .ok (.getfield 101, 3) := by decide +kernel
theorem dX2_tallyValues_24 : decode cX2_tallyValues 24 = .ok (.if_icmp .ge 75, 3) := by decide +kernel
theorem dX2_tallyValues_27 : decode cX2_tallyValues 27 = .ok (.aload_n 1, 1) := by decide +kernel
theorem dX2_tallyValues_28 : decode cX2_tallyValues 28 = .ok (.getfield 111, 3) := by decide +kernel
theorem dX2_tallyValues_31 : decode cX2_tallyValues 31 = .ok (.getfield 155, 3) := by decide +kernel
theorem dX2_tallyValues_34 : decode cX2_tallyValues 34 = .ok (.aload_n 1, 1) := by decide +kernel
theorem dX2_tallyValues_35 : decode cX2_tallyValues 35 = .ok (.getfield 32, 3) := by decide +kernel
theorem dX2_tallyValues_38 : decode cX2_tallyValues 38 = .ok (.getfield 104, 3) := by decide +kernel
theorem dX2_tallyValues_41 : decode cX2_tallyValues 41 = .ok (.iload_n 2, 1) := by decide +kernel
theorem dX2_tallyValues_42 : decode cX2_tallyValues 42 = .ok (.invokevirtual 89, 3) := by decide +kernel
theorem dX2_tallyValues_45 : decode cX2_tallyValues 45 = .ok (.invokevirtual 89, 3) := by decide +kernel
theorem dX2_tallyValues_48 : decode cX2_tallyValues 48 = .ok (.istore_n 3, 1) := by decide +kernel
theorem dX2_tallyValues_49 : decode cX2_tallyValues 49 = .ok (.aload_n 1, 1) := by decide +kernel
theorem dX2_tallyValues_50 : decode cX2_tallyValues 50 = .ok (.getfield 32, 3) := by decide +kernel
theorem dX2_tallyValues_53 : decode cX2_tallyValues 53 = .ok (.getfield 133, 3) := by decide +kernel
theorem dX2_tallyValues_56 : decode cX2_tallyValues 56 = .ok (.iload_n 2, 1) := by decide +kernel
theorem dX2_tallyValues_57 : decode cX2_tallyValues 57 = .ok (.invokevirtual 89, 3) := by decide +kernel
theorem dX2_tallyValues_60 : decode cX2_tallyValues 60 = .ok (.ifCond .ne 10, 3) := by decide +kernel
theorem dX2_tallyValues_63 : decode cX2_tallyValues 63 = .ok (.aload_n 0, 1) := by decide +kernel
theorem dX2_tallyValues_64 : decode cX2_tallyValues 64 = .ok (.getfield 26, 3) := by decide +kernel
theorem dX2_tallyValues_67 : decode cX2_tallyValues 67 = .ok (.goto 7, 3) := by decide +kernel
theorem dX2_tallyValues_70 : decode cX2_tallyValues 70 = .ok (.aload_n 0, 1) := by decide +kernel
theorem dX2_tallyValues_71 : decode cX2_tallyValues 71 = .ok (.getfield 29, 3) := by decide +kernel
theorem dX2_tallyValues_74 : decode cX2_tallyValues 74 = .ok (.astore 4, 2) := by decide +kernel
theorem dX2_tallyValues_76 : decode cX2_tallyValues 76 = .ok (.aload 4, 2) := by decide +kernel
theorem dX2_tallyValues_78 : decode cX2_tallyValues 78 = .ok (.iload_n 3, 1) := by decide +kernel
theorem dX2_tallyValues_79 : decode cX2_tallyValues 79 = .ok (.aload_n 1, 1) := by decide +kernel
theorem dX2_tallyValues_80 : decode cX2_tallyValues 80 = .ok (.getfield 32, 3) := by decide +kernel
theorem dX2_tallyValues_83 : decode cX2_tallyValues 83 = .ok (.getfield 92, 3) := by decide +kernel
theorem dX2_tallyValues_86 : decode cX2_tallyValues 86 = .ok (.iload_n 2, 1) := by decide +kernel
theorem dX2_tallyValues_87 : decode cX2_tallyValues 87 = .ok (.invokevirtual 89, 3) := by decide +kernel
theorem dX2_tallyValues_90 : decode cX2_tallyValues 90 = .ok (.invokevirtual 152, 3) := by decide +kernel
theorem dX2_tallyValues_93 : decode cX2_tallyValues 93 = .ok (.iinc 2 1, 3) := by decide +kernel
theorem dX2_tallyValues_96 : decode cX2_tallyValues 96 = .ok (.goto (-80), 3) := by decide +kernel
theorem dX2_tallyValues_99 : decode cX2_tallyValues 99 = .ok (.return_, 1) := by decide +kernel
theorem dX2_hundredthsOf_0 : decode cX2_hundredthsOf 0 = .ok (.aload_n 0, 1) := by decide +kernel
theorem dX2_hundredthsOf_1 : decode cX2_hundredthsOf 1 = .ok (.getfield 71, 3) := by decide +kernel
theorem dX2_hundredthsOf_4 : decode cX2_hundredthsOf 4 = .ok (.ifCond .ge 5, 3) := by decide +kernel
theorem dX2_hundredthsOf_7 : decode cX2_hundredthsOf 7 = .ok (.iconst 0, 1) := by decide +kernel
theorem dX2_hundredthsOf_8 : decode cX2_hundredthsOf 8 = .ok (.ireturn, 1) := by decide +kernel
theorem dX2_hundredthsOf_9 : decode cX2_hundredthsOf 9 = .ok (.iload_n 1, 1) := by decide +kernel
theorem dX2_hundredthsOf_10 : decode cX2_hundredthsOf 10 = .ok (.ifCond .le 15, 3) := by decide +kernel
theorem dX2_hundredthsOf_13 : decode cX2_hundredthsOf 13 = .ok (.aload_n 0, 1) := by decide +kernel
theorem dX2_hundredthsOf_14 : decode cX2_hundredthsOf 14 = .ok (.getfield 71, 3) := by decide +kernel
theorem dX2_hundredthsOf_17 : decode cX2_hundredthsOf 17 = .ok (.bipush 100, 2) := by decide +kernel
theorem dX2_hundredthsOf_19 : decode cX2_hundredthsOf 19 = .ok (.imul, 1) := by decide +kernel
theorem dX2_hundredthsOf_20 : decode cX2_hundredthsOf 20 = .ok (.iload_n 1, 1) := by decide +kernel
theorem dX2_hundredthsOf_21 : decode cX2_hundredthsOf 21 = .ok (.idiv, 1) := by decide +kernel
theorem dX2_hundredthsOf_22 : decode cX2_hundredthsOf 22 = .ok (.goto 5, 3) := by decide +kernel
theorem dX2_hundredthsOf_25 : decode cX2_hundredthsOf 25 = .ok (.bipush 100, 2) := by decide +kernel
theorem dX2_hundredthsOf_27 : decode cX2_hundredthsOf 27 = .ok (.ireturn, 1) := by decide +kernel
theorem dX3_init_0 : decode cX3_init 0 = .ok (.aload_n 0, 1) := by decide +kernel
theorem dX3_init_1 : decode cX3_init 1 = .ok (.invokespecial 3, 3) := by decide +kernel
theorem dX3_init_4 : decode cX3_init 4 = .ok (.aload_n 0, 1) := by decide +kernel
theorem dX3_init_5 : decode cX3_init 5 = .ok (.new 9, 3) := by decide +kernel
theorem dX3_init_8 : decode cX3_init 8 = .ok (.dup, 1) := by decide +kernel
theorem dX3_init_9 : decode cX3_init 9 = .ok (.iconst 3, 1) := by decide +kernel
theorem dX3_init_10 : decode cX3_init 10 = .ok (.invokespecial 11, 3) := by decide +kernel
theorem dX3_init_13 : decode cX3_init 13 = .ok (.putfield 14, 3) := by decide +kernel
theorem dX3_init_16 : decode cX3_init 16 = .ok (.aload_n 0, 1) := by decide +kernel
theorem dX3_init_17 : decode cX3_init 17 = .ok (.new 9, 3) := by decide +kernel
theorem dX3_init_20 : decode cX3_init 20 = .ok (.dup, 1) := by decide +kernel
theorem dX3_init_21 : decode cX3_init 21 = .ok (.sipush 150, 3) := by decide +kernel
theorem dX3_init_24 : decode cX3_init 24 = .ok (.invokespecial 11, 3) := by decide +kernel
theorem dX3_init_27 : decode cX3_init 27 = .ok (.putfield 20, 3) := by decide +kernel
theorem dX3_init_30 : decode cX3_init 30 = .ok (.aload_n 0, 1) := by decide +kernel
theorem dX3_init_31 : decode cX3_init 31 = .ok (.iconst (-1), 1) := by decide +kernel
theorem dX3_init_32 : decode cX3_init 32 = .ok (.putfield 23, 3) := by decide +kernel
theorem dX3_init_35 : decode cX3_init 35 = .ok (.return_, 1) := by decide +kernel
theorem dX4_init_0 : decode cX4_init 0 = .ok (.aload_n 0, 1) := by decide +kernel
theorem dX4_init_1 : decode cX4_init 1 = .ok (.invokespecial 3, 3) := by decide +kernel
theorem dX4_init_4 : decode cX4_init 4 = .ok (.aload_n 0, 1) := by decide +kernel
theorem dX4_init_5 : decode cX4_init 5 = .ok (.new 9, 3) := by decide +kernel
theorem dX4_init_8 : decode cX4_init 8 = .ok (.dup, 1) := by decide +kernel
theorem dX4_init_9 : decode cX4_init 9 = .ok (.bipush 20, 2) := by decide +kernel
theorem dX4_init_11 : decode cX4_init 11 = .ok (.invokespecial 11, 3) := by decide +kernel
theorem dX4_init_14 : decode cX4_init 14 = .ok (.putfield 14, 3) := by decide +kernel
theorem dX4_init_17 : decode cX4_init 17 = .ok (.aload_n 0, 1) := by decide +kernel
theorem dX4_init_18 : decode cX4_init 18 = .ok (.new 9, 3) := by decide +kernel
theorem dX4_init_21 : decode cX4_init 21 = .ok (.dup, 1) := by decide +kernel
theorem dX4_init_22 : decode cX4_init 22 = .ok (.bipush 20, 2) := by decide +kernel
theorem dX4_init_24 : decode cX4_init 24 = .ok (.invokespecial 11, 3) := by decide +kernel
theorem dX4_init_27 : decode cX4_init 27 = .ok (.putfield 20, 3) := by decide +kernel
theorem dX4_init_30 : decode cX4_init 30 = .ok (.aload_n 0, 1) := by decide +kernel
theorem dX4_init_31 : decode cX4_init 31 = .ok (.new 9, 3) := by decide +kernel
theorem dX4_init_34 : decode cX4_init 34 = .ok (.dup, 1) := by decide +kernel
theorem dX4_init_35 : decode cX4_init 35 = .ok (.bipush 20, 2) := by decide +kernel
theorem dX4_init_37 : decode cX4_init 37 = .ok (.invokespecial 11, 3) := by decide +kernel
theorem dX4_init_40 : decode cX4_init 40 = .ok (.putfield 23, 3) := by decide +kernel
theorem dX4_init_43 : decode cX4_init 43 = .ok (.aload_n 0, 1) := by decide +kernel
theorem dX4_init_44 : decode cX4_init 44 = .ok (.new 9, 3) := by decide +kernel
theorem dX4_init_47 : decode cX4_init 47 = .ok (.dup, 1) := by decide +kernel
theorem dX4_init_48 : decode cX4_init 48 = .ok (.bipush 20, 2) := by decide +kernel
theorem dX4_init_50 : decode cX4_init 50 = .ok (.invokespecial 11, 3) := by decide +kernel
theorem dX4_init_53 : decode cX4_init 53 = .ok (.putfield 26, 3) := by decide +kernel
theorem dX4_init_56 : decode cX4_init 56 = .ok (.aload_n 0, 1) := by decide +kernel
theorem dX4_init_57 : decode cX4_init 57 = .ok (.new 9, 3) := by decide +kernel
theorem dX4_init_60 : decode cX4_init 60 = .ok (.dup, 1) := by decide +kernel
theorem dX4_init_61 : decode cX4_init 61 = .ok (.bipush 20, 2) := by decide +kernel
theorem dX4_init_63 : decode cX4_init 63 = .ok (.invokespecial 11, 3) := by decide +kernel
theorem dX4_init_66 : decode cX4_init 66 = .ok (.putfield 29, 3) := by decide +kernel
theorem dX4_init_69 : decode cX4_init 69 = .ok (.aload_n 0, 1) := by decide +kernel
theorem dX4_init_70 : decode cX4_init 70 = .ok (.new 9, 3) := by decide +kernel
theorem dX4_init_73 : decode cX4_init 73 = .ok (.dup, 1) := by decide +kernel
theorem dX4_init_74 : decode cX4_init 74 = .ok (.bipush 20, 2) := by decide +kernel
theorem dX4_init_76 : decode cX4_init 76 = .ok (.invokespecial 11, 3) := by decide +kernel
theorem dX4_init_79 : decode cX4_init 79 = .ok (.putfield 32, 3) := by decide +kernel
theorem dX4_init_82 : decode cX4_init 82 = .ok (.return_, 1) := by decide +kernel
theorem dX4_isFull_0 : decode cX4_isFull 0 = .ok (.aload_n 0, 1) := by decide +kernel
theorem dX4_isFull_1 : decode cX4_isFull 1 = .ok (.getfield 35, 3) := by decide +kernel
theorem dX4_isFull_4 : decode cX4_isFull 4 = .ok (.bipush 20, 2) := by decide +kernel
theorem dX4_isFull_6 : decode cX4_isFull 6 = .ok (.if_icmp .lt 7, 3) := by decide +kernel
theorem dX4_isFull_9 : decode cX4_isFull 9 = .ok (.iconst 1, 1) := by decide +kernel
theorem dX4_isFull_10 : decode cX4_isFull 10 = .ok (.goto 4, 3) := by decide +kernel
theorem dX4_isFull_13 : decode cX4_isFull 13 = .ok (.iconst 0, 1) := by decide +kernel
theorem dX4_isFull_14 : decode cX4_isFull 14 = .ok (.ireturn, 1) := by decide +kernel
theorem dX4_indexOf_0 : decode cX4_indexOf 0 = .ok (.iconst 0, 1) := by decide +kernel
theorem dX4_indexOf_1 : decode cX4_indexOf 1 = .ok (.istore_n 2, 1) := by decide +kernel
theorem dX4_indexOf_2 : decode cX4_indexOf 2 = .ok (.iload_n 2, 1) := by decide +kernel
theorem dX4_indexOf_3 : decode cX4_indexOf 3 = .ok (.aload_n 0, 1) := by decide +kernel
theorem dX4_indexOf_4 : decode cX4_indexOf 4 = .ok (.getfield 35, 3) := by decide +kernel
theorem dX4_indexOf_7 : decode cX4_indexOf 7 = .ok (.if_icmp .ge 23, 3) := by decide +kernel
theorem dX4_indexOf_10 : decode cX4_indexOf 10 = .ok (.aload_n 0, 1) := by decide +kernel
theorem dX4_indexOf_11 : decode cX4_indexOf 11 = .ok (.getfield 14, 3) := by decide +kernel
theorem dX4_indexOf_14 : decode cX4_indexOf 14 = .ok (.iload_n 2, 1) := by decide +kernel
theorem dX4_indexOf_15 : decode cX4_indexOf 15 = .ok (.invokevirtual 39, 3) := by decide +kernel
theorem dX4_indexOf_18 : decode cX4_indexOf 18 = .ok (.iload_n 1, 1) := by decide +kernel
theorem dX4_indexOf_19 : decode cX4_indexOf 19 = .ok (.if_icmp .ne 5, 3) := by decide +kernel
theorem dX4_indexOf_22 : decode cX4_indexOf 22 = .ok (.iload_n 2, 1) := by decide +kernel
theorem dX4_indexOf_23 : decode cX4_indexOf 23 = .ok (.ireturn, 1) := by decide +kernel
theorem dX4_indexOf_24 : decode cX4_indexOf 24 = .ok (.iinc 2 1, 3) := by decide +kernel
theorem dX4_indexOf_27 : decode cX4_indexOf 27 = .ok (.goto (-25), 3) := by decide +kernel
theorem dX4_indexOf_30 : decode cX4_indexOf 30 = .ok (.iconst (-1), 1) := by decide +kernel
theorem dX4_indexOf_31 : decode cX4_indexOf 31 = .ok (.ireturn, 1) := by decide +kernel
theorem dX4_faultOfNumber_0 : decode cX4_faultOfNumber 0 = .ok (.aload_n 0, 1) := by decide +kernel
theorem dX4_faultOfNumber_1 : decode cX4_faultOfNumber 1 = .ok (.iload_n 1, 1) := by decide +kernel
theorem dX4_faultOfNumber_2 : decode cX4_faultOfNumber 2 = .ok (.invokevirtual 43, 3) := by decide +kernel
theorem dX4_faultOfNumber_5 : decode cX4_faultOfNumber 5 = .ok (.ifCond .lt 7, 3) := by decide +kernel
theorem dX4_faultOfNumber_8 : decode cX4_faultOfNumber 8 = .ok (.iconst 0, 1) := by decide +kernel
theorem dX4_faultOfNumber_9 : decode cX4_faultOfNumber 9 = .ok (.goto 4, 3) := by decide +kernel
theorem dX4_faultOfNumber_12 : decode cX4_faultOfNumber 12 = .ok (.iconst 1, 1) := by decide +kernel
theorem dX4_faultOfNumber_13 : decode cX4_faultOfNumber 13 = .ok (.ireturn, 1) := by decide +kernel
theorem dX4_append_0 : decode cX4_append 0 = .ok (.aload_n 0, 1) := by decide +kernel
theorem dX4_append_1 : decode cX4_append 1 = .ok (.getfield 14, 3) := by decide +kernel
theorem dX4_append_4 : decode cX4_append 4 = .ok (.aload_n 0, 1) := by decide +kernel
theorem dX4_append_5 : decode cX4_append 5 = .ok (.getfield 35, 3) := by decide +kernel
theorem dX4_append_8 : decode cX4_append 8 = .ok (.iload_n 1, 1) := by decide +kernel
theorem dX4_append_9 : decode cX4_append 9 = .ok (.invokevirtual 46, 3) := by decide +kernel
theorem dX4_append_12 : decode cX4_append 12 = .ok (.aload_n 0, 1) := by decide +kernel
theorem dX4_append_13 : decode cX4_append 13 = .ok (.getfield 20, 3) := by decide +kernel
theorem dX4_append_16 : decode cX4_append 16 = .ok (.aload_n 0, 1) := by decide +kernel
theorem dX4_append_17 : decode cX4_append 17 = .ok (.getfield 35, 3) := by decide +kernel
theorem dX4_append_20 : decode cX4_append 20 = .ok (.iload_n 2, 1) := by decide +kernel
theorem dX4_append_21 : decode cX4_append 21 = .ok (.invokevirtual 46, 3) := by decide +kernel
theorem dX4_append_24 : decode cX4_append 24 = .ok (.aload_n 0, 1) := by decide +kernel
theorem dX4_append_25 : decode cX4_append 25 = .ok (.getfield 23, 3) := by decide +kernel
theorem dX4_append_28 : decode cX4_append 28 = .ok (.aload_n 0, 1) := by decide +kernel
theorem dX4_append_29 : decode cX4_append 29 = .ok (.getfield 35, 3) := by decide +kernel
theorem dX4_append_32 : decode cX4_append 32 = .ok (.iload_n 3, 1) := by decide +kernel
theorem dX4_append_33 : decode cX4_append 33 = .ok (.invokevirtual 46, 3) := by decide +kernel
theorem dX4_append_36 : decode cX4_append 36 = .ok (.aload_n 0, 1) := by decide +kernel
theorem dX4_append_37 : decode cX4_append 37 = .ok (.getfield 26, 3) := by decide +kernel
theorem dX4_append_40 : decode cX4_append 40 = .ok (.aload_n 0, 1) := by decide +kernel
theorem dX4_append_41 : decode cX4_append 41 = .ok (.getfield 35, 3) := by decide +kernel
theorem dX4_append_44 : decode cX4_append 44 = .ok (.iload 4, 2) := by decide +kernel
theorem dX4_append_46 : decode cX4_append 46 = .ok (.invokevirtual 46, 3) := by decide +kernel
theorem dX4_append_49 : decode cX4_append 49 = .ok (.aload_n 0, 1) := by decide +kernel
theorem dX4_append_50 : decode cX4_append 50 = .ok (.getfield 29, 3) := by decide +kernel
theorem dX4_append_53 : decode cX4_append 53 = .ok (.aload_n 0, 1) := by decide +kernel
theorem dX4_append_54 : decode cX4_append 54 = .ok (.getfield 35, 3) := by decide +kernel
theorem dX4_append_57 : decode cX4_append 57 = .ok (.iload 5, 2) := by decide +kernel
theorem dX4_append_59 : decode cX4_append 59 = .ok (.invokevirtual 46, 3) := by decide +kernel
theorem dX4_append_62 : decode cX4_append 62 = .ok (.aload_n 0, 1) := by decide +kernel
theorem dX4_append_63 : decode cX4_append 63 = .ok (.getfield 32, 3) := by decide +kernel
theorem dX4_append_66 : decode cX4_append 66 = .ok (.aload_n 0, 1) := by decide +kernel
theorem dX4_append_67 : decode cX4_append 67 = .ok (.getfield 35, 3) := by decide +kernel
theorem dX4_append_70 : decode cX4_append 70 = .ok (.iload 6, 2) := by decide +kernel
theorem dX4_append_72 : decode cX4_append 72 = .ok (.invokevirtual 46, 3) := by decide +kernel
theorem dX4_append_75 : decode cX4_append 75 = .ok (.aload_n 0, 1) := by decide +kernel
theorem dX4_append_76 : decode cX4_append 76 = .ok (.dup, 1) := by decide +kernel
theorem dX4_append_77 : decode cX4_append 77 = .ok (.getfield 35, 3) := by decide +kernel
theorem dX4_append_80 : decode cX4_append 80 = .ok (.iconst 1, 1) := by decide +kernel
theorem dX4_append_81 : decode cX4_append 81 = .ok (.iadd, 1) := by decide +kernel
theorem dX4_append_82 : decode cX4_append 82 = .ok (.putfield 35, 3) := by decide +kernel
theorem dX4_append_85 : decode cX4_append 85 = .ok (.return_, 1) := by decide +kernel
theorem dX4_withdraw_0 : decode cX4_withdraw 0 = .ok (.aload_n 0, 1) := by decide +kernel
theorem dX4_withdraw_1 : decode cX4_withdraw 1 = .ok (.iload_n 1, 1) := by decide +kernel
theorem dX4_withdraw_2 : decode cX4_withdraw 2 = .ok (.invokevirtual 43, 3) := by decide +kernel
theorem dX4_withdraw_5 : decode cX4_withdraw 5 = .ok (.istore_n 2, 1) := by decide +kernel
theorem dX4_withdraw_6 : decode cX4_withdraw 6 = .ok (.aload_n 0, 1) := by decide +kernel
theorem dX4_withdraw_7 : decode cX4_withdraw 7 = .ok (.getfield 29, 3) := by decide +kernel
theorem dX4_withdraw_10 : decode cX4_withdraw 10 = .ok (.iload_n 2, 1) := by decide +kernel
theorem dX4_withdraw_11 : decode cX4_withdraw 11 = .ok (.invokevirtual 39, 3) := by decide +kernel
theorem dX4_withdraw_14 : decode cX4_withdraw 14 = .ok (.istore_n 3, 1) := by decide +kernel
theorem dX4_withdraw_15 : decode cX4_withdraw 15 = .ok (.aload_n 0, 1) := by decide +kernel
theorem dX4_withdraw_16 : decode cX4_withdraw 16 = .ok (.iload_n 2, 1) := by decide +kernel
theorem dX4_withdraw_17 : decode cX4_withdraw 17 = .ok (.invokevirtual 50, 3) := by decide +kernel
theorem dX4_withdraw_20 : decode cX4_withdraw 20 = .ok (.iload_n 3, 1) := by decide +kernel
theorem dX4_withdraw_21 : decode cX4_withdraw 21 = .ok (.ireturn, 1) := by decide +kernel
theorem dX4_removeAt_0 : decode cX4_removeAt 0 = .ok (.iload_n 1, 1) := by decide +kernel
theorem dX4_removeAt_1 : decode cX4_removeAt 1 = .ok (.ifCond .lt 11, 3) := by decide +kernel
theorem dX4_removeAt_4 : decode cX4_removeAt 4 = .ok (.iload_n 1, 1) := by decide +kernel
theorem dX4_removeAt_5 : decode cX4_removeAt 5 = .ok (.aload_n 0, 1) := by decide +kernel
theorem dX4_removeAt_6 : decode cX4_removeAt 6 = .ok (.getfield 35, 3) := by decide +kernel
theorem dX4_removeAt_9 : decode cX4_removeAt 9 = .ok (.if_icmp .lt 4, 3) := by decide +kernel
theorem dX4_removeAt_12 : decode cX4_removeAt 12 = .ok (.return_, 1) := by decide +kernel
theorem dX4_removeAt_13 : decode cX4_removeAt 13 = .ok (.aload_n 0, 1) := by decide +kernel
theorem dX4_removeAt_14 : decode cX4_removeAt 14 = .ok (.getfield 14, 3) := by decide +kernel
theorem dX4_removeAt_17 : decode cX4_removeAt 17 = .ok (.iload_n 1, 1) := by decide +kernel
theorem dX4_removeAt_18 : decode cX4_removeAt 18 = .ok (.invokevirtual 53, 3) := by decide +kernel
theorem dX4_removeAt_21 : decode cX4_removeAt 21 = .ok (.aload_n 0, 1) := by decide +kernel
theorem dX4_removeAt_22 : decode cX4_removeAt 22 = .ok (.getfield 20, 3) := by decide +kernel
theorem dX4_removeAt_25 : decode cX4_removeAt 25 = .ok (.iload_n 1, 1) := by decide +kernel
theorem dX4_removeAt_26 : decode cX4_removeAt 26 = .ok (.invokevirtual 53, 3) := by decide +kernel
theorem dX4_removeAt_29 : decode cX4_removeAt 29 = .ok (.aload_n 0, 1) := by decide +kernel
theorem dX4_removeAt_30 : decode cX4_removeAt 30 = .ok (.getfield 23, 3) := by decide +kernel
theorem dX4_removeAt_33 : decode cX4_removeAt 33 = .ok (.iload_n 1, 1) := by decide +kernel
theorem dX4_removeAt_34 : decode cX4_removeAt 34 = .ok (.invokevirtual 53, 3) := by decide +kernel
theorem dX4_removeAt_37 : decode cX4_removeAt 37 = .ok (.aload_n 0, 1) := by decide +kernel
theorem dX4_removeAt_38 : decode cX4_removeAt 38 = .ok (.getfield 26, 3) := by decide +kernel
theorem dX4_removeAt_41 : decode cX4_removeAt 41 = .ok (.iload_n 1, 1) := by decide +kernel
theorem dX4_removeAt_42 : decode cX4_removeAt 42 = .ok (.invokevirtual 53, 3) := by decide +kernel
theorem dX4_removeAt_45 : decode cX4_removeAt 45 = .ok (.aload_n 0, 1) := by decide +kernel
theorem dX4_removeAt_46 : decode cX4_removeAt 46 = .ok (.getfield 29, 3) := by decide +kernel
theorem dX4_removeAt_49 : decode cX4_removeAt 49 = .ok (.iload_n 1, 1) := by decide +kernel
theorem dX4_removeAt_50 : decode cX4_removeAt 50 = .ok (.invokevirtual 53, 3) := by decide +kernel
theorem dX4_removeAt_53 : decode cX4_removeAt 53 = .ok (.aload_n 0, 1) := by decide +kernel
theorem dX4_removeAt_54 : decode cX4_removeAt 54 = .ok (.getfield 32, 3) := by decide +kernel
theorem dX4_removeAt_57 : decode cX4_removeAt 57 = .ok (.iload_n 1, 1) := by decide +kernel
theorem dX4_removeAt_58 : decode cX4_removeAt 58 = .ok (.invokevirtual 53, 3) := by decide +kernel
theorem dX4_removeAt_61 : decode cX4_removeAt 61 = .ok (.aload_n 0, 1) := by decide +kernel
theorem dX4_removeAt_62 : decode cX4_removeAt 62 = .ok (.dup, 1) := by decide +kernel
theorem dX4_removeAt_63 : decode cX4_removeAt 63 = .ok (.getfield 35, 3) := by decide +kernel
theorem dX4_removeAt_66 : decode cX4_removeAt 66 = .ok (.iconst 1, 1) := by decide +kernel
theorem dX4_removeAt_67 : decode cX4_removeAt 67 = .ok (.isub, 1) := by decide +kernel
theorem dX4_removeAt_68 : decode cX4_removeAt 68 = .ok (.putfield 35, 3) := by decide +kernel
theorem dX4_removeAt_71 : decode cX4_removeAt 71 = .ok (.return_, 1) := by decide +kernel
theorem dX4_isAhead_0 : decode cX4_isAhead 0 = .ok (.aload_n 0, 1) := by decide +kernel
theorem dX4_isAhead_1 : decode cX4_isAhead 1 = .ok (.getfield 26, 3) := by decide +kernel
theorem dX4_isAhead_4 : decode cX4_isAhead 4 = .ok (.iload_n 1, 1) := by decide +kernel
theorem dX4_isAhead_5 : decode cX4_isAhead 5 = .ok (.invokevirtual 39, 3) := by decide +kernel
theorem dX4_isAhead_8 : decode cX4_isAhead 8 = .ok (.aload_n 0, 1) := by decide +kernel
theorem dX4_isAhead_9 : decode cX4_isAhead 9 = .ok (.getfield 26, 3) := by decide +kernel
theorem dX4_isAhead_12 : decode cX4_isAhead 12 = .ok (.iload_n 2, 1) := by decide +kernel
theorem dX4_isAhead_13 : decode cX4_isAhead 13 = .ok (.invokevirtual 39, 3) := by decide +kernel
theorem dX4_isAhead_16 : decode cX4_isAhead 16 = .ok (.isub, 1) := by decide +kernel
theorem dX4_isAhead_17 : decode cX4_isAhead 17 = .ok (.istore_n 3, 1) := by decide +kernel
theorem dX4_isAhead_18 : decode cX4_isAhead 18 = .ok (.iload_n 3, 1) := by decide +kernel
theorem dX4_isAhead_19 : decode cX4_isAhead 19 = .ok (.ifCond .ne 14, 3) := by decide +kernel
theorem dX4_isAhead_22 : decode cX4_isAhead 22 = .ok (.iload_n 1, 1) := by decide +kernel
theorem dX4_isAhead_23 : decode cX4_isAhead 23 = .ok (.iload_n 2, 1) := by decide +kernel
theorem dX4_isAhead_24 : decode cX4_isAhead 24 = .ok (.if_icmp .ge 7, 3) := by decide +kernel
theorem dX4_isAhead_27 : decode cX4_isAhead 27 = .ok (.iconst 1, 1) := by decide +kernel
theorem dX4_isAhead_28 : decode cX4_isAhead 28 = .ok (.goto 4, 3) := by decide +kernel
theorem dX4_isAhead_31 : decode cX4_isAhead 31 = .ok (.iconst 0, 1) := by decide +kernel
theorem dX4_isAhead_32 : decode cX4_isAhead 32 = .ok (.ireturn, 1) := by decide +kernel
theorem dX4_isAhead_33 : decode cX4_isAhead 33 = .ok (.aload_n 0, 1) := by decide +kernel
theorem dX4_isAhead_34 : decode cX4_isAhead 34 = .ok (.getfield 23, 3) := by decide +kernel
theorem dX4_isAhead_37 : decode cX4_isAhead 37 = .ok (.iload_n 1, 1) := by decide +kernel
theorem dX4_isAhead_38 : decode cX4_isAhead 38 = .ok (.invokevirtual 39, 3) := by decide +kernel
theorem dX4_isAhead_41 : decode cX4_isAhead 41 = .ok (.ifCond .ne 15, 3) := by decide +kernel
theorem dX4_isAhead_44 : decode cX4_isAhead 44 = .ok (.iload_n 3, 1) := by decide +kernel
theorem dX4_isAhead_45 : decode cX4_isAhead 45 = .ok (.ifCond .le 7, 3) := by decide +kernel
theorem dX4_isAhead_48 : decode cX4_isAhead 48 = .ok (.iconst 1, 1) := by decide +kernel
theorem dX4_isAhead_49 : decode cX4_isAhead 49 = .ok (.goto 16, 3) := by decide +kernel
theorem dX4_isAhead_52 : decode cX4_isAhead 52 = .ok (.iconst 0, 1) := by decide +kernel
theorem dX4_isAhead_53 : decode cX4_isAhead 53 = .ok (.goto 12, 3) := by decide +kernel
theorem dX4_isAhead_56 : decode cX4_isAhead 56 = .ok (.iload_n 3, 1) := by decide +kernel
theorem dX4_isAhead_57 : decode cX4_isAhead 57 = .ok (.ifCond .ge 7, 3) := by decide +kernel
theorem dX4_isAhead_60 : decode cX4_isAhead 60 = .ok (.iconst 1, 1) := by decide +kernel
theorem dX4_isAhead_61 : decode cX4_isAhead 61 = .ok (.goto 4, 3) := by decide +kernel
theorem dX4_isAhead_64 : decode cX4_isAhead 64 = .ok (.iconst 0, 1) := by decide +kernel
theorem dX4_isAhead_65 : decode cX4_isAhead 65 = .ok (.ireturn, 1) := by decide +kernel
theorem dX4_placeOf_0 : decode cX4_placeOf 0 = .ok (.iconst 0, 1) := by decide +kernel
theorem dX4_placeOf_1 : decode cX4_placeOf 1 = .ok (.istore_n 2, 1) := by decide +kernel
theorem dX4_placeOf_2 : decode cX4_placeOf 2 = .ok (.iconst 0, 1) := by decide +kernel
theorem dX4_placeOf_3 : decode cX4_placeOf 3 = .ok (.istore_n 3, 1) := by decide +kernel
theorem dX4_placeOf_4 : decode cX4_placeOf 4 = .ok (.iload_n 3, 1) := by decide +kernel
theorem dX4_placeOf_5 : decode cX4_placeOf 5 = .ok (.aload_n 0, 1) := by decide +kernel
theorem dX4_placeOf_6 : decode cX4_placeOf 6 = .ok (.getfield 35, 3) := by decide +kernel
theorem dX4_placeOf_9 : decode cX4_placeOf 9 = .ok (.if_icmp .ge 40, 3) := by decide +kernel
theorem dX4_placeOf_12 : decode cX4_placeOf 12 = .ok (.aload_n 0, 1) := by decide +kernel
theorem dX4_placeOf_13 : decode cX4_placeOf 13 = .ok (.getfield 23, 3) := by decide +kernel
theorem dX4_placeOf_16 : decode cX4_placeOf 16 = .ok (.iload_n 3, 1) := by decide +kernel
theorem dX4_placeOf_17 : decode cX4_placeOf 17 = .ok (.invokevirtual 39, 3) := by decide +kernel
theorem dX4_placeOf_20 : decode cX4_placeOf 20 = .ok (.aload_n 0, 1) := by decide +kernel
theorem dX4_placeOf_21 : decode cX4_placeOf 21 = .ok (.getfield 23, 3) := by decide +kernel
theorem dX4_placeOf_24 : decode cX4_placeOf 24 = .ok (.iload_n 1, 1) := by decide +kernel
theorem dX4_placeOf_25 : decode cX4_placeOf 25 = .ok (.invokevirtual 39, 3) := by decide +kernel
theorem dX4_placeOf_28 : decode cX4_placeOf 28 = .ok (.if_icmp .ne 15, 3) := by decide +kernel
theorem dX4_placeOf_31 : decode cX4_placeOf 31 = .ok (.aload_n 0, 1) := by decide +kernel
theorem dX4_placeOf_32 : decode cX4_placeOf 32 = .ok (.iload_n 3, 1) := by decide +kernel
theorem dX4_placeOf_33 : decode cX4_placeOf 33 = .ok (.iload_n 1, 1) := by decide +kernel
theorem dX4_placeOf_34 : decode cX4_placeOf 34 = .ok (.invokevirtual 54, 3) := by decide +kernel
theorem dX4_placeOf_37 : decode cX4_placeOf 37 = .ok (.ifCond .eq 6, 3) := by decide +kernel
theorem dX4_placeOf_40 : decode cX4_placeOf 40 = .ok (.iinc 2 1, 3) := by decide +kernel
theorem dX4_placeOf_43 : decode cX4_placeOf 43 = .ok (.iinc 3 1, 3) := by decide +kernel
theorem dX4_placeOf_46 : decode cX4_placeOf 46 = .ok (.goto (-42), 3) := by decide +kernel
theorem dX4_placeOf_49 : decode cX4_placeOf 49 = .ok (.iload_n 2, 1) := by decide +kernel
theorem dX4_placeOf_50 : decode cX4_placeOf 50 = .ok (.ireturn, 1) := by decide +kernel
theorem dX4_accepts_0 : decode cX4_accepts 0 = .ok (.aload_n 0, 1) := by decide +kernel
theorem dX4_accepts_1 : decode cX4_accepts 1 = .ok (.getfield 23, 3) := by decide +kernel
theorem dX4_accepts_4 : decode cX4_accepts 4 = .ok (.iload_n 1, 1) := by decide +kernel
theorem dX4_accepts_5 : decode cX4_accepts 5 = .ok (.invokevirtual 39, 3) := by decide +kernel
theorem dX4_accepts_8 : decode cX4_accepts 8 = .ok (.ifCond .ne 23, 3) := by decide +kernel
theorem dX4_accepts_11 : decode cX4_accepts 11 = .ok (.aload_n 0, 1) := by decide +kernel
theorem dX4_accepts_12 : decode cX4_accepts 12 = .ok (.getfield 26, 3) := by decide +kernel
theorem dX4_accepts_15 : decode cX4_accepts 15 = .ok (.iload_n 1, 1) := by decide +kernel
theorem dX4_accepts_16 : decode cX4_accepts 16 = .ok (.invokevirtual 39, 3) := by decide +kernel
theorem dX4_accepts_19 : decode cX4_accepts 19 = .ok (.iload_n 2, 1) := by decide +kernel
theorem dX4_accepts_20 : decode cX4_accepts 20 = .ok (.if_icmp .lt 7, 3) := by decide +kernel
theorem dX4_accepts_23 : decode cX4_accepts 23 = .ok (.iconst 1, 1) := by decide +kernel
theorem dX4_accepts_24 : decode cX4_accepts 24 = .ok (.goto 24, 3) := by decide +kernel
theorem dX4_accepts_27 : decode cX4_accepts 27 = .ok (.iconst 0, 1) := by decide +kernel
theorem dX4_accepts_28 : decode cX4_accepts 28 = .ok (.goto 20, 3) := by decide +kernel
theorem dX4_accepts_31 : decode cX4_accepts 31 = .ok (.aload_n 0, 1) := by decide +kernel
theorem dX4_accepts_32 : decode cX4_accepts 32 = .ok (.getfield 26, 3) := by decide +kernel
theorem dX4_accepts_35 : decode cX4_accepts 35 = .ok (.iload_n 1, 1) := by decide +kernel
theorem dX4_accepts_36 : decode cX4_accepts 36 = .ok (.invokevirtual 39, 3) := by decide +kernel
theorem dX4_accepts_39 : decode cX4_accepts 39 = .ok (.iload_n 2, 1) := by decide +kernel
theorem dX4_accepts_40 : decode cX4_accepts 40 = .ok (.if_icmp .gt 7, 3) := by decide +kernel
theorem dX4_accepts_43 : decode cX4_accepts 43 = .ok (.iconst 1, 1) := by decide +kernel
theorem dX4_accepts_44 : decode cX4_accepts 44 = .ok (.goto 4, 3) := by decide +kernel
theorem dX4_accepts_47 : decode cX4_accepts 47 = .ok (.iconst 0, 1) := by decide +kernel
theorem dX4_accepts_48 : decode cX4_accepts 48 = .ok (.ireturn, 1) := by decide +kernel
theorem dX4_countOf_0 : decode cX4_countOf 0 = .ok (.iconst 0, 1) := by decide +kernel
theorem dX4_countOf_1 : decode cX4_countOf 1 = .ok (.istore_n 2, 1) := by decide +kernel
theorem dX4_countOf_2 : decode cX4_countOf 2 = .ok (.iconst 0, 1) := by decide +kernel
theorem dX4_countOf_3 : decode cX4_countOf 3 = .ok (.istore_n 3, 1) := by decide +kernel
theorem dX4_countOf_4 : decode cX4_countOf 4 = .ok (.iload_n 3, 1) := by decide +kernel
theorem dX4_countOf_5 : decode cX4_countOf 5 = .ok (.aload_n 0, 1) := by decide +kernel
theorem dX4_countOf_6 : decode cX4_countOf 6 = .ok (.getfield 35, 3) := by decide +kernel
theorem dX4_countOf_9 : decode cX4_countOf 9 = .ok (.if_icmp .ge 24, 3) := by decide +kernel
theorem dX4_countOf_12 : decode cX4_countOf 12 = .ok (.aload_n 0, 1) := by decide +kernel
theorem dX4_countOf_13 : decode cX4_countOf 13 = .ok (.getfield 20, 3) := by decide +kernel
theorem dX4_countOf_16 : decode cX4_countOf 16 = .ok (.iload_n 3, 1) := by decide +kernel
theorem dX4_countOf_17 : decode cX4_countOf 17 = .ok (.invokevirtual 39, 3) := by decide +kernel
theorem dX4_countOf_20 : decode cX4_countOf 20 = .ok (.iload_n 1, 1) := by decide +kernel
theorem dX4_countOf_21 : decode cX4_countOf 21 = .ok (.if_icmp .ne 6, 3) := by decide +kernel
theorem dX4_countOf_24 : decode cX4_countOf 24 = .ok (.iinc 2 1, 3) := by decide +kernel
theorem dX4_countOf_27 : decode cX4_countOf 27 = .ok (.iinc 3 1, 3) := by decide +kernel
theorem dX4_countOf_30 : decode cX4_countOf 30 = .ok (.goto (-26), 3) := by decide +kernel
theorem dX4_countOf_33 : decode cX4_countOf 33 = .ok (.iload_n 2, 1) := by decide +kernel
theorem dX4_countOf_34 : decode cX4_countOf 34 = .ok (.ireturn, 1) := by decide +kernel
theorem dX4_unitsOf_0 : decode cX4_unitsOf 0 = .ok (.iconst 0, 1) := by decide +kernel
theorem dX4_unitsOf_1 : decode cX4_unitsOf 1 = .ok (.istore_n 2, 1) := by decide +kernel
theorem dX4_unitsOf_2 : decode cX4_unitsOf 2 = .ok (.iconst 0, 1) := by decide +kernel
theorem dX4_unitsOf_3 : decode cX4_unitsOf 3 = .ok (.istore_n 3, 1) := by decide +kernel
theorem dX4_unitsOf_4 : decode cX4_unitsOf 4 = .ok (.iload_n 3, 1) := by decide +kernel
theorem dX4_unitsOf_5 : decode cX4_unitsOf 5 = .ok (.aload_n 0, 1) := by decide +kernel
theorem dX4_unitsOf_6 : decode cX4_unitsOf 6 = .ok (.getfield 35, 3) := by decide +kernel
theorem dX4_unitsOf_9 : decode cX4_unitsOf 9 = .ok (.if_icmp .ge 32, 3) := by decide +kernel
theorem dX4_unitsOf_12 : decode cX4_unitsOf 12 = .ok (.aload_n 0, 1) := by decide +kernel
theorem dX4_unitsOf_13 : decode cX4_unitsOf 13 = .ok (.getfield 20, 3) := by decide +kernel
theorem dX4_unitsOf_16 : decode cX4_unitsOf 16 = .ok (.iload_n 3, 1) := by decide +kernel
theorem dX4_unitsOf_17 : decode cX4_unitsOf 17 = .ok (.invokevirtual 39, 3) := by decide +kernel
theorem dX4_unitsOf_20 : decode cX4_unitsOf 20 = .ok (.iload_n 1, 1) := by decide +kernel
theorem dX4_unitsOf_21 : decode cX4_unitsOf 21 = .ok (.if_icmp .ne 14, 3) := by decide +kernel
theorem dX4_unitsOf_24 : decode cX4_unitsOf 24 = .ok (.iload_n 2, 1) := by decide +kernel
theorem dX4_unitsOf_25 : decode cX4_unitsOf 25 = .ok (.aload_n 0, 1) := by decide +kernel
theorem dX4_unitsOf_26 : decode cX4_unitsOf 26 = .ok (.getfield 29, 3) := by decide +kernel
theorem dX4_unitsOf_29 : decode cX4_unitsOf 29 = .ok (.iload_n 3, 1) := by decide +kernel
theorem dX4_unitsOf_30 : decode cX4_unitsOf 30 = .ok (.invokevirtual 39, 3) := by decide +kernel
theorem dX4_unitsOf_33 : decode cX4_unitsOf 33 = .ok (.iadd, 1) := by decide +kernel
theorem dX4_unitsOf_34 : decode cX4_unitsOf 34 = .ok (.istore_n 2, 1) := by decide +kernel
theorem dX4_unitsOf_35 : decode cX4_unitsOf 35 = .ok (.iinc 3 1, 3) := by decide +kernel
theorem dX4_unitsOf_38 : decode cX4_unitsOf 38 = .ok (.goto (-34), 3) := by decide +kernel
theorem dX4_unitsOf_41 : decode cX4_unitsOf 41 = .ok (.iload_n 2, 1) := by decide +kernel
theorem dX4_unitsOf_42 : decode cX4_unitsOf 42 = .ok (.ireturn, 1) := by decide +kernel
theorem dX4_valueOf_0 : decode cX4_valueOf 0 = .ok (.iload_n 2, 1) := by decide +kernel
theorem dX4_valueOf_1 : decode cX4_valueOf 1 = .ok (.tableswitch 67 0 3 #[31, 40, 49, 58], 31) := by decide +kernel
theorem dX4_valueOf_32 : decode cX4_valueOf 32 = .ok (.aload_n 0, 1) := by decide +kernel
theorem dX4_valueOf_33 : decode cX4_valueOf 33 = .ok (.getfield 20, 3) := by decide +kernel
theorem dX4_valueOf_36 : decode cX4_valueOf 36 = .ok (.iload_n 1, 1) := by decide +kernel
theorem dX4_valueOf_37 : decode cX4_valueOf 37 = .ok (.invokevirtual 39, 3) := by decide +kernel
theorem dX4_valueOf_40 : decode cX4_valueOf 40 = .ok (.ireturn, 1) := by decide +kernel
theorem dX4_valueOf_41 : decode cX4_valueOf 41 = .ok (.aload_n 0, 1) := by decide +kernel
theorem dX4_valueOf_42 : decode cX4_valueOf 42 = .ok (.getfield 26, 3) := by decide +kernel
theorem dX4_valueOf_45 : decode cX4_valueOf 45 = .ok (.iload_n 1, 1) := by decide +kernel
theorem dX4_valueOf_46 : decode cX4_valueOf 46 = .ok (.invokevirtual 39, 3) := by decide +kernel
theorem dX4_valueOf_49 : decode cX4_valueOf 49 = .ok (.ireturn, 1) := by decide +kernel
theorem dX4_valueOf_50 : decode cX4_valueOf 50 = .ok (.aload_n 0, 1) := by decide +kernel
theorem dX4_valueOf_51 : decode cX4_valueOf 51 = .ok (.getfield 29, 3) := by decide +kernel
theorem dX4_valueOf_54 : decode cX4_valueOf 54 = .ok (.iload_n 1, 1) := by decide +kernel
theorem dX4_valueOf_55 : decode cX4_valueOf 55 = .ok (.invokevirtual 39, 3) := by decide +kernel
theorem dX4_valueOf_58 : decode cX4_valueOf 58 = .ok (.ireturn, 1) := by decide +kernel
theorem dX4_valueOf_59 : decode cX4_valueOf 59 = .ok (.aload_n 0, 1) := by decide +kernel
theorem dX4_valueOf_60 : decode cX4_valueOf 60 = .ok (.getfield 32, 3) := by decide +kernel
theorem dX4_valueOf_63 : decode cX4_valueOf 63 = .ok (.iload_n 1, 1) := by decide +kernel
theorem dX4_valueOf_64 : decode cX4_valueOf 64 = .ok (.invokevirtual 39, 3) := by decide +kernel
theorem dX4_valueOf_67 : decode cX4_valueOf 67 = .ok (.ireturn, 1) := by decide +kernel
theorem dX4_valueOf_68 : decode cX4_valueOf 68 = .ok (.aload_n 0, 1) := by decide +kernel
theorem dX4_valueOf_69 : decode cX4_valueOf 69 = .ok (.iload_n 1, 1) := by decide +kernel
theorem dX4_valueOf_70 : decode cX4_valueOf 70 = .ok (.invokevirtual 70, 3) := by decide +kernel
theorem dX4_valueOf_73 : decode cX4_valueOf 73 = .ok (.ireturn, 1) := by decide +kernel
theorem dX4_removeEmpty_0 : decode cX4_removeEmpty 0 = .ok (.aload_n 0, 1) := by decide +kernel
theorem dX4_removeEmpty_1 : decode cX4_removeEmpty 1 = .ok (.getfield 35, 3) := by decide +kernel
theorem dX4_removeEmpty_4 : decode cX4_removeEmpty 4 = .ok (.iconst 1, 1) := by decide +kernel
theorem dX4_removeEmpty_5 : decode cX4_removeEmpty 5 = .ok (.isub, 1) := by decide +kernel
theorem dX4_removeEmpty_6 : decode cX4_removeEmpty 6 = .ok (.istore_n 1, 1) := by decide +kernel
theorem dX4_removeEmpty_7 : decode cX4_removeEmpty 7 = .ok (.iload_n 1, 1) := by decide +kernel
theorem dX4_removeEmpty_8 : decode cX4_removeEmpty 8 = .ok (.ifCond .lt 25, 3) := by decide +kernel
theorem dX4_removeEmpty_11 : decode cX4_removeEmpty 11 = .ok (.aload_n 0, 1) := by decide +kernel
theorem dX4_removeEmpty_12 : decode cX4_removeEmpty 12 = .ok (.getfield 29, 3) := by decide +kernel
theorem dX4_removeEmpty_15 : decode cX4_removeEmpty 15 = .ok (.iload_n 1, 1) := by decide +kernel
theorem dX4_removeEmpty_16 : decode cX4_removeEmpty 16 = .ok (.invokevirtual 39, 3) := by decide +kernel
theorem dX4_removeEmpty_19 : decode cX4_removeEmpty 19 = .ok (.ifCond .ne 8, 3) := by decide +kernel
theorem dX4_removeEmpty_22 : decode cX4_removeEmpty 22 = .ok (.aload_n 0, 1) := by decide +kernel
theorem dX4_removeEmpty_23 : decode cX4_removeEmpty 23 = .ok (.iload_n 1, 1) := by decide +kernel
theorem dX4_removeEmpty_24 : decode cX4_removeEmpty 24 = .ok (.invokevirtual 50, 3) := by decide +kernel
theorem dX4_removeEmpty_27 : decode cX4_removeEmpty 27 = .ok (.iinc 1 (-1), 3) := by decide +kernel
theorem dX4_removeEmpty_30 : decode cX4_removeEmpty 30 = .ok (.goto (-23), 3) := by decide +kernel
theorem dX4_removeEmpty_33 : decode cX4_removeEmpty 33 = .ok (.return_, 1) := by decide +kernel
theorem dX4_removeUpTo_0 : decode cX4_removeUpTo 0 = .ok (.aload_n 0, 1) := by decide +kernel
theorem dX4_removeUpTo_1 : decode cX4_removeUpTo 1 = .ok (.getfield 35, 3) := by decide +kernel
theorem dX4_removeUpTo_4 : decode cX4_removeUpTo 4 = .ok (.istore_n 2, 1) := by decide +kernel
theorem dX4_removeUpTo_5 : decode cX4_removeUpTo 5 = .ok (.aload_n 0, 1) := by decide +kernel
theorem dX4_removeUpTo_6 : decode cX4_removeUpTo 6 = .ok (.getfield 35, 3) := by decide +kernel
theorem dX4_removeUpTo_9 : decode cX4_removeUpTo 9 = .ok (.iconst 1, 1) := by decide +kernel
theorem dX4_removeUpTo_10 : decode cX4_removeUpTo 10 = .ok (.isub, 1) := by decide +kernel
theorem dX4_removeUpTo_11 : decode cX4_removeUpTo 11 = .ok (.istore_n 3, 1) := by decide +kernel
theorem dX4_removeUpTo_12 : decode cX4_removeUpTo 12 = .ok (.iload_n 3, 1) := by decide +kernel
theorem dX4_removeUpTo_13 : decode cX4_removeUpTo 13 = .ok (.ifCond .lt 26, 3) := by decide +kernel
theorem dX4_removeUpTo_16 : decode cX4_removeUpTo 16 = .ok (.aload_n 0, 1) := by decide +kernel
theorem dX4_removeUpTo_17 : decode cX4_removeUpTo 17 = .ok (.getfield 32, 3) := by decide +kernel
theorem dX4_removeUpTo_20 : decode cX4_removeUpTo 20 = .ok (.iload_n 3, 1) := by decide +kernel
theorem dX4_removeUpTo_21 : decode cX4_removeUpTo 21 = .ok (.invokevirtual 39, 3) := by decide +kernel
theorem dX4_removeUpTo_24 : decode cX4_removeUpTo 24 = .ok (.iload_n 1, 1) := by decide +kernel
theorem dX4_removeUpTo_25 : decode cX4_removeUpTo 25 = .ok (.if_icmp .gt 8, 3) := by decide +kernel
theorem dX4_removeUpTo_28 : decode cX4_removeUpTo 28 = .ok (.aload_n 0, 1) := by decide +kernel
theorem dX4_removeUpTo_29 : decode cX4_removeUpTo 29 = .ok (.iload_n 3, 1) := by decide +kernel
theorem dX4_removeUpTo_30 : decode cX4_removeUpTo 30 = .ok (.invokevirtual 50, 3) := by decide +kernel
theorem dX4_removeUpTo_33 : decode cX4_removeUpTo 33 = .ok (.iinc 3 (-1), 3) := by decide +kernel
theorem dX4_removeUpTo_36 : decode cX4_removeUpTo 36 = .ok (.goto (-24), 3) := by decide +kernel
theorem dX4_removeUpTo_39 : decode cX4_removeUpTo 39 = .ok (.iload_n 2, 1) := by decide +kernel
theorem dX4_removeUpTo_40 : decode cX4_removeUpTo 40 = .ok (.aload_n 0, 1) := by decide +kernel
theorem dX4_removeUpTo_41 : decode cX4_removeUpTo 41 = .ok (.getfield 35, 3) := by decide +kernel
theorem dX4_removeUpTo_44 : decode cX4_removeUpTo 44 = .ok (.isub, 1) := by decide +kernel
theorem dX4_removeUpTo_45 : decode cX4_removeUpTo 45 = .ok (.ireturn, 1) := by decide +kernel
theorem dX4_copyFrom_0 : decode cX4_copyFrom 0 = .ok (.aload_n 0, 1) := by decide +kernel
theorem dX4_copyFrom_1 : decode cX4_copyFrom 1 = .ok (.aload_n 1, 1) := by decide +kernel
theorem dX4_copyFrom_2 : decode cX4_copyFrom 2 = .ok (.getfield 35, 3) := by decide +kernel
theorem dX4_copyFrom_5 : decode cX4_copyFrom 5 = .ok (.putfield 35, 3) := by decide +kernel
theorem dX4_copyFrom_8 : decode cX4_copyFrom 8 = .ok (.aload_n 0, 1) := by decide +kernel
theorem dX4_copyFrom_9 : decode cX4_copyFrom 9 = .ok (.getfield 14, 3) := by decide +kernel
theorem dX4_copyFrom_12 : decode cX4_copyFrom 12 = .ok (.aload_n 1, 1) := by decide +kernel
theorem dX4_copyFrom_13 : decode cX4_copyFrom 13 = .ok (.getfield 14, 3) := by decide +kernel
theorem dX4_copyFrom_16 : decode cX4_copyFrom 16 = .ok (.invokevirtual 73, 3) := by decide +kernel
theorem dX4_copyFrom_19 : decode cX4_copyFrom 19 = .ok (.aload_n 0, 1) := by decide +kernel
theorem dX4_copyFrom_20 : decode cX4_copyFrom 20 = .ok (.getfield 20, 3) := by decide +kernel
theorem dX4_copyFrom_23 : decode cX4_copyFrom 23 = .ok (.aload_n 1, 1) := by decide +kernel
theorem dX4_copyFrom_24 : decode cX4_copyFrom 24 = .ok (.getfield 20, 3) := by decide +kernel
theorem dX4_copyFrom_27 : decode cX4_copyFrom 27 = .ok (.invokevirtual 73, 3) := by decide +kernel
theorem dX4_copyFrom_30 : decode cX4_copyFrom 30 = .ok (.aload_n 0, 1) := by decide +kernel
theorem dX4_copyFrom_31 : decode cX4_copyFrom 31 = .ok (.getfield 23, 3) := by decide +kernel
theorem dX4_copyFrom_34 : decode cX4_copyFrom 34 = .ok (.aload_n 1, 1) := by decide +kernel
theorem dX4_copyFrom_35 : decode cX4_copyFrom 35 = .ok (.getfield 23, 3) := by decide +kernel
theorem dX4_copyFrom_38 : decode cX4_copyFrom 38 = .ok (.invokevirtual 73, 3) := by decide +kernel
theorem dX4_copyFrom_41 : decode cX4_copyFrom 41 = .ok (.aload_n 0, 1) := by decide +kernel
theorem dX4_copyFrom_42 : decode cX4_copyFrom 42 = .ok (.getfield 26, 3) := by decide +kernel
theorem dX4_copyFrom_45 : decode cX4_copyFrom 45 = .ok (.aload_n 1, 1) := by decide +kernel
theorem dX4_copyFrom_46 : decode cX4_copyFrom 46 = .ok (.getfield 26, 3) := by decide +kernel
theorem dX4_copyFrom_49 : decode cX4_copyFrom 49 = .ok (.invokevirtual 73, 3) := by decide +kernel
theorem dX4_copyFrom_52 : decode cX4_copyFrom 52 = .ok (.aload_n 0, 1) := by decide +kernel
theorem dX4_copyFrom_53 : decode cX4_copyFrom 53 = .ok (.getfield 29, 3) := by decide +kernel
theorem dX4_copyFrom_56 : decode cX4_copyFrom 56 = .ok (.aload_n 1, 1) := by decide +kernel
theorem dX4_copyFrom_57 : decode cX4_copyFrom 57 = .ok (.getfield 29, 3) := by decide +kernel
theorem dX4_copyFrom_60 : decode cX4_copyFrom 60 = .ok (.invokevirtual 73, 3) := by decide +kernel
theorem dX4_copyFrom_63 : decode cX4_copyFrom 63 = .ok (.aload_n 0, 1) := by decide +kernel
theorem dX4_copyFrom_64 : decode cX4_copyFrom 64 = .ok (.getfield 32, 3) := by decide +kernel
theorem dX4_copyFrom_67 : decode cX4_copyFrom 67 = .ok (.aload_n 1, 1) := by decide +kernel
theorem dX4_copyFrom_68 : decode cX4_copyFrom 68 = .ok (.getfield 32, 3) := by decide +kernel
theorem dX4_copyFrom_71 : decode cX4_copyFrom 71 = .ok (.invokevirtual 73, 3) := by decide +kernel
theorem dX4_copyFrom_74 : decode cX4_copyFrom 74 = .ok (.return_, 1) := by decide +kernel
theorem dX5_init_0 : decode cX5_init 0 = .ok (.aload_n 0, 1) := by decide +kernel
theorem dX5_init_1 : decode cX5_init 1 = .ok (.invokespecial 1, 3) := by decide +kernel
theorem dX5_init_4 : decode cX5_init 4 = .ok (.aload_n 0, 1) := by decide +kernel
theorem dX5_init_5 : decode cX5_init 5 = .ok (.iload_n 1, 1) := by decide +kernel
theorem dX5_init_6 : decode cX5_init 6 = .ok (.ifCond .le 7, 3) := by decide +kernel
theorem dX5_init_9 : decode cX5_init 9 = .ok (.iload_n 1, 1) := by decide +kernel
theorem dX5_init_10 : decode cX5_init 10 = .ok (.goto 4, 3) := by decide +kernel
theorem dX5_init_13 : decode cX5_init 13 = .ok (.iconst 0, 1) := by decide +kernel
theorem dX5_init_14 : decode cX5_init 14 = .ok (.newarray .int, 2) := by decide +kernel
theorem dX5_init_16 : decode cX5_init 16 = .ok (.putfield 7, 3) := by decide +kernel
theorem dX5_init_19 : decode cX5_init 19 = .ok (.return_, 1) := by decide +kernel
theorem dX5_get_0 : decode cX5_get 0 = .ok (.iload_n 1, 1) := by decide +kernel
theorem dX5_get_1 : decode cX5_get 1 = .ok (.ifCond .lt 21, 3) := by decide +kernel
theorem dX5_get_4 : decode cX5_get 4 = .ok (.iload_n 1, 1) := by decide +kernel
theorem dX5_get_5 : decode cX5_get 5 = .ok (.aload_n 0, 1) := by decide +kernel
theorem dX5_get_6 : decode cX5_get 6 = .ok (.getfield 7, 3) := by decide +kernel
theorem dX5_get_9 : decode cX5_get 9 = .ok (.arraylength, 1) := by decide +kernel
theorem dX5_get_10 : decode cX5_get 10 = .ok (.if_icmp .ge 12, 3) := by decide +kernel
theorem dX5_get_13 : decode cX5_get 13 = .ok (.aload_n 0, 1) := by decide +kernel
theorem dX5_get_14 : decode cX5_get 14 = .ok (.getfield 7, 3) := by decide +kernel
theorem dX5_get_17 : decode cX5_get 17 = .ok (.iload_n 1, 1) := by decide +kernel
theorem dX5_get_18 : decode cX5_get 18 = .ok (.iaload, 1) := by decide +kernel
theorem dX5_get_19 : decode cX5_get 19 = .ok (.goto 4, 3) := by decide +kernel
theorem dX5_get_22 : decode cX5_get 22 = .ok (.iconst 0, 1) := by decide +kernel
theorem dX5_get_23 : decode cX5_get 23 = .ok (.ireturn, 1) := by decide +kernel
theorem dX5_put_0 : decode cX5_put 0 = .ok (.iload_n 1, 1) := by decide +kernel
theorem dX5_put_1 : decode cX5_put 1 = .ok (.ifCond .lt 19, 3) := by decide +kernel
theorem dX5_put_4 : decode cX5_put 4 = .ok (.iload_n 1, 1) := by decide +kernel
theorem dX5_put_5 : decode cX5_put 5 = .ok (.aload_n 0, 1) := by decide +kernel
theorem dX5_put_6 : decode cX5_put 6 = .ok (.getfield 7, 3) := by decide +kernel
theorem dX5_put_9 : decode cX5_put 9 = .ok (.arraylength, 1) := by decide +kernel
theorem dX5_put_10 : decode cX5_put 10 = .ok (.if_icmp .ge 10, 3) := by decide +kernel
theorem dX5_put_13 : decode cX5_put 13 = .ok (.aload_n 0, 1) := by decide +kernel
theorem dX5_put_14 : decode cX5_put 14 = .ok (.getfield 7, 3) := by decide +kernel
theorem dX5_put_17 : decode cX5_put 17 = .ok (.iload_n 1, 1) := by decide +kernel
theorem dX5_put_18 : decode cX5_put 18 = .ok (.iload_n 2, 1) := by decide +kernel
theorem dX5_put_19 : decode cX5_put 19 = .ok (.iastore, 1) := by decide +kernel
theorem dX5_put_20 : decode cX5_put 20 = .ok (.return_, 1) := by decide +kernel
theorem dX5_add_0 : decode cX5_add 0 = .ok (.iload_n 1, 1) := by decide +kernel
theorem dX5_add_1 : decode cX5_add 1 = .ok (.ifCond .lt 22, 3) := by decide +kernel
theorem dX5_add_4 : decode cX5_add 4 = .ok (.iload_n 1, 1) := by decide +kernel
theorem dX5_add_5 : decode cX5_add 5 = .ok (.aload_n 0, 1) := by decide +kernel
theorem dX5_add_6 : decode cX5_add 6 = .ok (.getfield 7, 3) := by decide +kernel
theorem dX5_add_9 : decode cX5_add 9 = .ok (.arraylength, 1) := by decide +kernel
theorem dX5_add_10 : decode cX5_add 10 = .ok (.if_icmp .ge 13, 3) := by decide +kernel
theorem dX5_add_13 : decode cX5_add 13 = .ok (.aload_n 0, 1) := by decide +kernel
theorem dX5_add_14 : decode cX5_add 14 = .ok (.getfield 7, 3) := by decide +kernel
theorem dX5_add_17 : decode cX5_add 17 = .ok (.iload_n 1, 1) := by decide +kernel
theorem dX5_add_18 : decode cX5_add 18 = .ok (.dup2, 1) := by decide +kernel
theorem dX5_add_19 : decode cX5_add 19 = .ok (.iaload, 1) := by decide +kernel
theorem dX5_add_20 : decode cX5_add 20 = .ok (.iload_n 2, 1) := by decide +kernel
theorem dX5_add_21 : decode cX5_add 21 = .ok (.iadd, 1) := by decide +kernel
theorem dX5_add_22 : decode cX5_add 22 = .ok (.iastore, 1) := by decide +kernel
theorem dX5_add_23 : decode cX5_add 23 = .ok (.return_, 1) := by decide +kernel
theorem dX5_fillWithZeros_0 : decode cX5_fillWithZeros 0 = .ok (.iconst 0, 1) := by decide +kernel
theorem dX5_fillWithZeros_1 : decode cX5_fillWithZeros 1 = .ok (.istore_n 1, 1) := by decide +kernel
theorem dX5_fillWithZeros_2 : decode cX5_fillWithZeros 2 = .ok (.iload_n 1, 1) := by decide +kernel
theorem dX5_fillWithZeros_3 : decode cX5_fillWithZeros 3 = .ok (.aload_n 0, 1) := by decide +kernel
theorem dX5_fillWithZeros_4 : decode cX5_fillWithZeros 4 = .ok (.getfield 7, 3) := by decide +kernel
theorem dX5_fillWithZeros_7 : decode cX5_fillWithZeros 7 = .ok (.arraylength, 1) := by decide +kernel
theorem dX5_fillWithZeros_8 : decode cX5_fillWithZeros 8 = .ok (.if_icmp .ge 16, 3) := by decide +kernel
theorem dX5_fillWithZeros_11 : decode cX5_fillWithZeros 11 = .ok (.aload_n 0, 1) := by decide +kernel
theorem dX5_fillWithZeros_12 : decode cX5_fillWithZeros 12 = .ok (.getfield 7, 3) := by decide +kernel
theorem dX5_fillWithZeros_15 : decode cX5_fillWithZeros 15 = .ok (.iload_n 1, 1) := by decide +kernel
theorem dX5_fillWithZeros_16 : decode cX5_fillWithZeros 16 = .ok (.iconst 0, 1) := by decide +kernel
theorem dX5_fillWithZeros_17 : decode cX5_fillWithZeros 17 = .ok (.iastore, 1) := by decide +kernel
theorem dX5_fillWithZeros_18 : decode cX5_fillWithZeros 18 = .ok (.iinc 1 1, 3) := by decide +kernel
theorem dX5_fillWithZeros_21 : decode cX5_fillWithZeros 21 = .ok (.goto (-19), 3) := by decide +kernel
theorem dX5_fillWithZeros_24 : decode cX5_fillWithZeros 24 = .ok (.return_, 1) := by decide +kernel
theorem dX5_removeAt_0 : decode cX5_removeAt 0 = .ok (.iload_n 1, 1) := by decide +kernel
theorem dX5_removeAt_1 : decode cX5_removeAt 1 = .ok (.iconst 1, 1) := by decide +kernel
theorem dX5_removeAt_2 : decode cX5_removeAt 2 = .ok (.iadd, 1) := by decide +kernel
theorem dX5_removeAt_3 : decode cX5_removeAt 3 = .ok (.istore_n 2, 1) := by decide +kernel
theorem dX5_removeAt_4 : decode cX5_removeAt 4 = .ok (.iload_n 2, 1) := by decide +kernel
theorem dX5_removeAt_5 : decode cX5_removeAt 5 = .ok (.iconst 1, 1) := by decide +kernel
theorem dX5_removeAt_6 : decode cX5_removeAt 6 = .ok (.if_icmp .lt 32, 3) := by decide +kernel
theorem dX5_removeAt_9 : decode cX5_removeAt 9 = .ok (.iload_n 2, 1) := by decide +kernel
theorem dX5_removeAt_10 : decode cX5_removeAt 10 = .ok (.aload_n 0, 1) := by decide +kernel
theorem dX5_removeAt_11 : decode cX5_removeAt 11 = .ok (.getfield 7, 3) := by decide +kernel
theorem dX5_removeAt_14 : decode cX5_removeAt 14 = .ok (.arraylength, 1) := by decide +kernel
theorem dX5_removeAt_15 : decode cX5_removeAt 15 = .ok (.if_icmp .ge 23, 3) := by decide +kernel
theorem dX5_removeAt_18 : decode cX5_removeAt 18 = .ok (.aload_n 0, 1) := by decide +kernel
theorem dX5_removeAt_19 : decode cX5_removeAt 19 = .ok (.getfield 7, 3) := by decide +kernel
theorem dX5_removeAt_22 : decode cX5_removeAt 22 = .ok (.iload_n 2, 1) := by decide +kernel
theorem dX5_removeAt_23 : decode cX5_removeAt 23 = .ok (.iconst 1, 1) := by decide +kernel
theorem dX5_removeAt_24 : decode cX5_removeAt 24 = .ok (.isub, 1) := by decide +kernel
theorem dX5_removeAt_25 : decode cX5_removeAt 25 = .ok (.aload_n 0, 1) := by decide +kernel
theorem dX5_removeAt_26 : decode cX5_removeAt 26 = .ok (.getfield 7, 3) := by decide +kernel
theorem dX5_removeAt_29 : decode cX5_removeAt 29 = .ok (.iload_n 2, 1) := by decide +kernel
theorem dX5_removeAt_30 : decode cX5_removeAt 30 = .ok (.iaload, 1) := by decide +kernel
theorem dX5_removeAt_31 : decode cX5_removeAt 31 = .ok (.iastore, 1) := by decide +kernel
theorem dX5_removeAt_32 : decode cX5_removeAt 32 = .ok (.iinc 2 1, 3) := by decide +kernel
theorem dX5_removeAt_35 : decode cX5_removeAt 35 = .ok (.goto (-31), 3) := by decide +kernel
theorem dX5_removeAt_38 : decode cX5_removeAt 38 = .ok (.return_, 1) := by decide +kernel
theorem dX5_copyFrom_0 : decode cX5_copyFrom 0 = .ok (.iconst 0, 1) := by decide +kernel
theorem dX5_copyFrom_1 : decode cX5_copyFrom 1 = .ok (.istore_n 2, 1) := by decide +kernel
theorem dX5_copyFrom_2 : decode cX5_copyFrom 2 = .ok (.iload_n 2, 1) := by decide +kernel
theorem dX5_copyFrom_3 : decode cX5_copyFrom 3 = .ok (.aload_n 0, 1) := by decide +kernel
theorem dX5_copyFrom_4 : decode cX5_copyFrom 4 = .ok (.getfield 7, 3) := by decide +kernel
theorem dX5_copyFrom_7 : decode cX5_copyFrom 7 = .ok (.arraylength, 1) := by decide +kernel
theorem dX5_copyFrom_8 : decode cX5_copyFrom 8 = .ok (.if_icmp .ge 20, 3) := by decide +kernel
theorem dX5_copyFrom_11 : decode cX5_copyFrom 11 = .ok (.aload_n 0, 1) := by decide +kernel
theorem dX5_copyFrom_12 : decode cX5_copyFrom 12 = .ok (.getfield 7, 3) := by decide +kernel
theorem dX5_copyFrom_15 : decode cX5_copyFrom 15 = .ok (.iload_n 2, 1) := by decide +kernel
theorem dX5_copyFrom_16 : decode cX5_copyFrom 16 = .ok (.aload_n 1, 1) := by decide +kernel
theorem dX5_copyFrom_17 : decode cX5_copyFrom 17 = .ok (.iload_n 2, 1) := by decide +kernel
theorem dX5_copyFrom_18 : decode cX5_copyFrom 18 = .ok (.invokevirtual 13, 3) := by decide +kernel
theorem dX5_copyFrom_21 : decode cX5_copyFrom 21 = .ok (.iastore, 1) := by decide +kernel
theorem dX5_copyFrom_22 : decode cX5_copyFrom 22 = .ok (.iinc 2 1, 3) := by decide +kernel
theorem dX5_copyFrom_25 : decode cX5_copyFrom 25 = .ok (.goto (-23), 3) := by decide +kernel
theorem dX5_copyFrom_28 : decode cX5_copyFrom 28 = .ok (.return_, 1) := by decide +kernel
theorem dX6_init_0 : decode cX6_init 0 = .ok (.aload_n 0, 1) := by decide +kernel
theorem dX6_init_1 : decode cX6_init 1 = .ok (.invokespecial 3, 3) := by decide +kernel
theorem dX6_init_4 : decode cX6_init 4 = .ok (.aload_n 0, 1) := by decide +kernel
theorem dX6_init_5 : decode cX6_init 5 = .ok (.new 9, 3) := by decide +kernel
theorem dX6_init_8 : decode cX6_init 8 = .ok (.dup, 1) := by decide +kernel
theorem dX6_init_9 : decode cX6_init 9 = .ok (.bipush 8, 2) := by decide +kernel
theorem dX6_init_11 : decode cX6_init 11 = .ok (.invokespecial 11, 3) := by decide +kernel
theorem dX6_init_14 : decode cX6_init 14 = .ok (.putfield 14, 3) := by decide +kernel
theorem dX6_init_17 : decode cX6_init 17 = .ok (.aload_n 0, 1) := by decide +kernel
theorem dX6_init_18 : decode cX6_init 18 = .ok (.new 9, 3) := by decide +kernel
theorem dX6_init_21 : decode cX6_init 21 = .ok (.dup, 1) := by decide +kernel
theorem dX6_init_22 : decode cX6_init 22 = .ok (.bipush 8, 2) := by decide +kernel
theorem dX6_init_24 : decode cX6_init 24 = .ok (.invokespecial 11, 3) := by decide +kernel
theorem dX6_init_27 : decode cX6_init 27 = .ok (.putfield 20, 3) := by decide +kernel
theorem dX6_init_30 : decode cX6_init 30 = .ok (.aload_n 0, 1) := by decide +kernel
theorem dX6_init_31 : decode cX6_init 31 = .ok (.new 9, 3) := by decide +kernel
theorem dX6_init_34 : decode cX6_init 34 = .ok (.dup, 1) := by decide +kernel
theorem dX6_init_35 : decode cX6_init 35 = .ok (.bipush 8, 2) := by decide +kernel
theorem dX6_init_37 : decode cX6_init 37 = .ok (.invokespecial 11, 3) := by decide +kernel
theorem dX6_init_40 : decode cX6_init 40 = .ok (.putfield 23, 3) := by decide +kernel
theorem dX6_init_43 : decode cX6_init 43 = .ok (.aload_n 0, 1) := by decide +kernel
theorem dX6_init_44 : decode cX6_init 44 = .ok (.new 9, 3) := by decide +kernel
theorem dX6_init_47 : decode cX6_init 47 = .ok (.dup, 1) := by decide +kernel
theorem dX6_init_48 : decode cX6_init 48 = .ok (.bipush 8, 2) := by decide +kernel
theorem dX6_init_50 : decode cX6_init 50 = .ok (.invokespecial 11, 3) := by decide +kernel
theorem dX6_init_53 : decode cX6_init 53 = .ok (.putfield 26, 3) := by decide +kernel
theorem dX6_init_56 : decode cX6_init 56 = .ok (.aload_n 0, 1) := by decide +kernel
theorem dX6_init_57 : decode cX6_init 57 = .ok (.new 9, 3) := by decide +kernel
theorem dX6_init_60 : decode cX6_init 60 = .ok (.dup, 1) := by decide +kernel
theorem dX6_init_61 : decode cX6_init 61 = .ok (.bipush 8, 2) := by decide +kernel
theorem dX6_init_63 : decode cX6_init 63 = .ok (.invokespecial 11, 3) := by decide +kernel
theorem dX6_init_66 : decode cX6_init 66 = .ok (.putfield 29, 3) := by decide +kernel
theorem dX6_init_69 : decode cX6_init 69 = .ok (.aload_n 0, 1) := by decide +kernel
theorem dX6_init_70 : decode cX6_init 70 = .ok (.new 9, 3) := by decide +kernel
theorem dX6_init_73 : decode cX6_init 73 = .ok (.dup, 1) := by decide +kernel
theorem dX6_init_74 : decode cX6_init 74 = .ok (.bipush 8, 2) := by decide +kernel
theorem dX6_init_76 : decode cX6_init 76 = .ok (.invokespecial 11, 3) := by decide +kernel
theorem dX6_init_79 : decode cX6_init 79 = .ok (.putfield 32, 3) := by decide +kernel
theorem dX6_init_82 : decode cX6_init 82 = .ok (.aload_n 0, 1) := by decide +kernel
theorem dX6_init_83 : decode cX6_init 83 = .ok (.new 9, 3) := by decide +kernel
theorem dX6_init_86 : decode cX6_init 86 = .ok (.dup, 1) := by decide +kernel
theorem dX6_init_87 : decode cX6_init 87 = .ok (.bipush 8, 2) := by decide +kernel
theorem dX6_init_89 : decode cX6_init 89 = .ok (.invokespecial 11, 3) := by decide +kernel
theorem dX6_init_92 : decode cX6_init 92 = .ok (.putfield 35, 3) := by decide +kernel
theorem dX6_init_95 : decode cX6_init 95 = .ok (.return_, 1) := by decide +kernel
theorem dX6_has_0 : decode cX6_has 0 = .ok (.iload_n 1, 1) := by decide +kernel
theorem dX6_has_1 : decode cX6_has 1 = .ok (.ifCond .lt 15, 3) := by decide +kernel
theorem dX6_has_4 : decode cX6_has 4 = .ok (.iload_n 1, 1) := by decide +kernel
theorem dX6_has_5 : decode cX6_has 5 = .ok (.aload_n 0, 1) := by decide +kernel
theorem dX6_has_6 : decode cX6_has 6 = .ok (.getfield 38, 3) := by decide +kernel
theorem dX6_has_9 : decode cX6_has 9 = .ok (.if_icmp .ge 7, 3) := by decide +kernel
theorem dX6_has_12 : decode cX6_has 12 = .ok (.iconst 1, 1) := by decide +kernel
theorem dX6_has_13 : decode cX6_has 13 = .ok (.goto 4, 3) := by decide +kernel
theorem dX6_has_16 : decode cX6_has 16 = .ok (.iconst 0, 1) := by decide +kernel
theorem dX6_has_17 : decode cX6_has 17 = .ok (.ireturn, 1) := by decide +kernel
theorem dX6_faultOfNumber_0 : decode cX6_faultOfNumber 0 = .ok (.aload_n 0, 1) := by decide +kernel
theorem dX6_faultOfNumber_1 : decode cX6_faultOfNumber 1 = .ok (.iload_n 1, 1) := by decide +kernel
theorem dX6_faultOfNumber_2 : decode cX6_faultOfNumber 2 = .ok (.invokevirtual 42, 3) := by decide +kernel
theorem dX6_faultOfNumber_5 : decode cX6_faultOfNumber 5 = .ok (.ifCond .eq 7, 3) := by decide +kernel
theorem dX6_faultOfNumber_8 : decode cX6_faultOfNumber 8 = .ok (.iconst 0, 1) := by decide +kernel
theorem dX6_faultOfNumber_9 : decode cX6_faultOfNumber 9 = .ok (.goto 4, 3) := by decide +kernel
theorem dX6_faultOfNumber_12 : decode cX6_faultOfNumber 12 = .ok (.iconst 1, 1) := by decide +kernel
theorem dX6_faultOfNumber_13 : decode cX6_faultOfNumber 13 = .ok (.ireturn, 1) := by decide +kernel
theorem dX6_join_0 : decode cX6_join 0 = .ok (.aload_n 0, 1) := by decide +kernel
theorem dX6_join_1 : decode cX6_join 1 = .ok (.getfield 38, 3) := by decide +kernel
theorem dX6_join_4 : decode cX6_join 4 = .ok (.istore_n 3, 1) := by decide +kernel
theorem dX6_join_5 : decode cX6_join 5 = .ok (.aload_n 0, 1) := by decide +kernel
theorem dX6_join_6 : decode cX6_join 6 = .ok (.getfield 14, 3) := by decide +kernel
theorem dX6_join_9 : decode cX6_join 9 = .ok (.iload_n 3, 1) := by decide +kernel
theorem dX6_join_10 : decode cX6_join 10 = .ok (.iload_n 1, 1) := by decide +kernel
theorem dX6_join_11 : decode cX6_join 11 = .ok (.invokevirtual 46, 3) := by decide +kernel
theorem dX6_join_14 : decode cX6_join 14 = .ok (.aload_n 0, 1) := by decide +kernel
theorem dX6_join_15 : decode cX6_join 15 = .ok (.getfield 20, 3) := by decide +kernel
theorem dX6_join_18 : decode cX6_join 18 = .ok (.iload_n 3, 1) := by decide +kernel
theorem dX6_join_19 : decode cX6_join 19 = .ok (.iload_n 2, 1) := by decide +kernel
theorem dX6_join_20 : decode cX6_join 20 = .ok (.invokevirtual 46, 3) := by decide +kernel
theorem dX6_join_23 : decode cX6_join 23 = .ok (.aload_n 0, 1) := by decide +kernel
theorem dX6_join_24 : decode cX6_join 24 = .ok (.iload_n 3, 1) := by decide +kernel
theorem dX6_join_25 : decode cX6_join 25 = .ok (.iconst 0, 1) := by decide +kernel
theorem dX6_join_26 : decode cX6_join 26 = .ok (.iconst 0, 1) := by decide +kernel
theorem dX6_join_27 : decode cX6_join 27 = .ok (.invokevirtual 50, 3) := by decide +kernel
theorem dX6_join_30 : decode cX6_join 30 = .ok (.aload_n 0, 1) := by decide +kernel
theorem dX6_join_31 : decode cX6_join 31 = .ok (.getfield 29, 3) := by decide +kernel
theorem dX6_join_34 : decode cX6_join 34 = .ok (.iload_n 3, 1) := by decide +kernel
theorem dX6_join_35 : decode cX6_join 35 = .ok (.iconst 0, 1) := by decide +kernel
theorem dX6_join_36 : decode cX6_join 36 = .ok (.invokevirtual 46, 3) := by decide +kernel
theorem dX6_join_39 : decode cX6_join 39 = .ok (.aload_n 0, 1) := by decide +kernel
theorem dX6_join_40 : decode cX6_join 40 = .ok (.getfield 32, 3) := by decide +kernel
theorem dX6_join_43 : decode cX6_join 43 = .ok (.iload_n 3, 1) := by decide +kernel
theorem dX6_join_44 : decode cX6_join 44 = .ok (.iconst 0, 1) := by decide +kernel
theorem dX6_join_45 : decode cX6_join 45 = .ok (.invokevirtual 46, 3) := by decide +kernel
theorem dX6_join_48 : decode cX6_join 48 = .ok (.aload_n 0, 1) := by decide +kernel
theorem dX6_join_49 : decode cX6_join 49 = .ok (.getfield 35, 3) := by decide +kernel
theorem dX6_join_52 : decode cX6_join 52 = .ok (.iload_n 3, 1) := by decide +kernel
theorem dX6_join_53 : decode cX6_join 53 = .ok (.iconst 0, 1) := by decide +kernel
theorem dX6_join_54 : decode cX6_join 54 = .ok (.invokevirtual 46, 3) := by decide +kernel
theorem dX6_join_57 : decode cX6_join 57 = .ok (.aload_n 0, 1) := by decide +kernel
theorem dX6_join_58 : decode cX6_join 58 = .ok (.dup, 1) := by decide +kernel
theorem dX6_join_59 : decode cX6_join 59 = .ok (.getfield 38, 3) := by decide +kernel
theorem dX6_join_62 : decode cX6_join 62 = .ok (.iconst 1, 1) := by decide +kernel
theorem dX6_join_63 : decode cX6_join 63 = .ok (.iadd, 1) := by decide +kernel
theorem dX6_join_64 : decode cX6_join 64 = .ok (.putfield 38, 3) := by decide +kernel
theorem dX6_join_67 : decode cX6_join 67 = .ok (.iload_n 3, 1) := by decide +kernel
theorem dX6_join_68 : decode cX6_join 68 = .ok (.ireturn, 1) := by decide +kernel
theorem dX6_shadeBy_0 : decode cX6_shadeBy 0 = .ok (.aload_n 0, 1) := by decide +kernel
theorem dX6_shadeBy_1 : decode cX6_shadeBy 1 = .ok (.getfield 23, 3) := by decide +kernel
theorem dX6_shadeBy_4 : decode cX6_shadeBy 4 = .ok (.iload_n 1, 1) := by decide +kernel
theorem dX6_shadeBy_5 : decode cX6_shadeBy 5 = .ok (.iload_n 2, 1) := by decide +kernel
theorem dX6_shadeBy_6 : decode cX6_shadeBy 6 = .ok (.invokevirtual 46, 3) := by decide +kernel
theorem dX6_shadeBy_9 : decode cX6_shadeBy 9 = .ok (.aload_n 0, 1) := by decide +kernel
theorem dX6_shadeBy_10 : decode cX6_shadeBy 10 = .ok (.getfield 26, 3) := by decide +kernel
theorem dX6_shadeBy_13 : decode cX6_shadeBy 13 = .ok (.iload_n 1, 1) := by decide +kernel
theorem dX6_shadeBy_14 : decode cX6_shadeBy 14 = .ok (.iload_n 3, 1) := by decide +kernel
theorem dX6_shadeBy_15 : decode cX6_shadeBy 15 = .ok (.invokevirtual 46, 3) := by decide +kernel
theorem dX6_shadeBy_18 : decode cX6_shadeBy 18 = .ok (.return_, 1) := by decide +kernel
theorem dX6_bidOf_0 : decode cX6_bidOf 0 = .ok (.aload_n 0, 1) := by decide +kernel
theorem dX6_bidOf_1 : decode cX6_bidOf 1 = .ok (.iload_n 1, 1) := by decide +kernel
theorem dX6_bidOf_2 : decode cX6_bidOf 2 = .ok (.aload_n 0, 1) := by decide +kernel
theorem dX6_bidOf_3 : decode cX6_bidOf 3 = .ok (.iload_n 1, 1) := by decide +kernel
theorem dX6_bidOf_4 : decode cX6_bidOf 4 = .ok (.invokevirtual 54, 3) := by decide +kernel
theorem dX6_bidOf_7 : decode cX6_bidOf 7 = .ok (.invokevirtual 58, 3) := by decide +kernel
theorem dX6_bidOf_10 : decode cX6_bidOf 10 = .ok (.ireturn, 1) := by decide +kernel
theorem dX6_bidWith_0 : decode cX6_bidWith 0 = .ok (.aload_n 0, 1) := by decide +kernel
theorem dX6_bidWith_1 : decode cX6_bidWith 1 = .ok (.getfield 14, 3) := by decide +kernel
theorem dX6_bidWith_4 : decode cX6_bidWith 4 = .ok (.iload_n 1, 1) := by decide +kernel
theorem dX6_bidWith_5 : decode cX6_bidWith 5 = .ok (.invokevirtual 62, 3) := by decide +kernel
theorem dX6_bidWith_8 : decode cX6_bidWith 8 = .ok (.ifCond .ne 18, 3) := by decide +kernel
theorem dX6_bidWith_11 : decode cX6_bidWith 11 = .ok (.iconst 1, 1) := by decide +kernel
theorem dX6_bidWith_12 : decode cX6_bidWith 12 = .ok (.aload_n 0, 1) := by decide +kernel
theorem dX6_bidWith_13 : decode cX6_bidWith 13 = .ok (.getfield 20, 3) := by decide +kernel
theorem dX6_bidWith_16 : decode cX6_bidWith 16 = .ok (.iload_n 1, 1) := by decide +kernel
theorem dX6_bidWith_17 : decode cX6_bidWith 17 = .ok (.invokevirtual 62, 3) := by decide +kernel
theorem dX6_bidWith_20 : decode cX6_bidWith 20 = .ok (.iload_n 2, 1) := by decide +kernel
theorem dX6_bidWith_21 : decode cX6_bidWith 21 = .ok (.isub, 1) := by decide +kernel
theorem dX6_bidWith_22 : decode cX6_bidWith 22 = .ok (.invokestatic 65, 3) := by decide +kernel
theorem dX6_bidWith_25 : decode cX6_bidWith 25 = .ok (.ireturn, 1) := by decide +kernel
theorem dX6_bidWith_26 : decode cX6_bidWith 26 = .ok (.bipush 120, 2) := by decide +kernel
theorem dX6_bidWith_28 : decode cX6_bidWith 28 = .ok (.aload_n 0, 1) := by decide +kernel
theorem dX6_bidWith_29 : decode cX6_bidWith 29 = .ok (.getfield 20, 3) := by decide +kernel
theorem dX6_bidWith_32 : decode cX6_bidWith 32 = .ok (.iload_n 1, 1) := by decide +kernel
theorem dX6_bidWith_33 : decode cX6_bidWith 33 = .ok (.invokevirtual 62, 3) := by decide +kernel
theorem dX6_bidWith_36 : decode cX6_bidWith 36 = .ok (.iload_n 2, 1) := by decide +kernel
theorem dX6_bidWith_37 : decode cX6_bidWith 37 = .ok (.iadd, 1) := by decide +kernel
theorem dX6_bidWith_38 : decode cX6_bidWith 38 = .ok (.invokestatic 70, 3) := by decide +kernel
theorem dX6_bidWith_41 : decode cX6_bidWith 41 = .ok (.ireturn, 1) := by decide +kernel
theorem dX6_gainPerUnit_0 : decode cX6_gainPerUnit 0 = .ok (.aload_n 0, 1) := by decide +kernel
theorem dX6_gainPerUnit_1 : decode cX6_gainPerUnit 1 = .ok (.getfield 14, 3) := by decide +kernel
theorem dX6_gainPerUnit_4 : decode cX6_gainPerUnit 4 = .ok (.iload_n 1, 1) := by decide +kernel
theorem dX6_gainPerUnit_5 : decode cX6_gainPerUnit 5 = .ok (.invokevirtual 62, 3) := by decide +kernel
theorem dX6_gainPerUnit_8 : decode cX6_gainPerUnit 8 = .ok (.ifCond .ne 16, 3) := by decide +kernel
theorem dX6_gainPerUnit_11 : decode cX6_gainPerUnit 11 = .ok (.aload_n 0, 1) := by decide +kernel
theorem dX6_gainPerUnit_12 : decode cX6_gainPerUnit 12 = .ok (.getfield 20, 3) := by decide +kernel
theorem dX6_gainPerUnit_15 : decode cX6_gainPerUnit 15 = .ok (.iload_n 1, 1) := by decide +kernel
theorem dX6_gainPerUnit_16 : decode cX6_gainPerUnit 16 = .ok (.invokevirtual 62, 3) := by decide +kernel
theorem dX6_gainPerUnit_19 : decode cX6_gainPerUnit 19 = .ok (.iload_n 2, 1) := by decide +kernel
theorem dX6_gainPerUnit_20 : decode cX6_gainPerUnit 20 = .ok (.isub, 1) := by decide +kernel
theorem dX6_gainPerUnit_21 : decode cX6_gainPerUnit 21 = .ok (.goto 13, 3) := by decide +kernel
theorem dX6_gainPerUnit_24 : decode cX6_gainPerUnit 24 = .ok (.iload_n 2, 1) := by decide +kernel
theorem dX6_gainPerUnit_25 : decode cX6_gainPerUnit 25 = .ok (.aload_n 0, 1) := by decide +kernel
theorem dX6_gainPerUnit_26 : decode cX6_gainPerUnit 26 = .ok (.getfield 20, 3) := by decide +kernel
theorem dX6_gainPerUnit_29 : decode cX6_gainPerUnit 29 = .ok (.iload_n 1, 1) := by decide +kernel
theorem dX6_gainPerUnit_30 : decode cX6_gainPerUnit 30 = .ok (.invokevirtual 62, 3) := by decide +kernel
theorem dX6_gainPerUnit_33 : decode cX6_gainPerUnit 33 = .ok (.isub, 1) := by decide +kernel
theorem dX6_gainPerUnit_34 : decode cX6_gainPerUnit 34 = .ok (.ireturn, 1) := by decide +kernel
theorem dX6_book_0 : decode cX6_book 0 = .ok (.aload_n 0, 1) := by decide +kernel
theorem dX6_book_1 : decode cX6_book 1 = .ok (.getfield 29, 3) := by decide +kernel
theorem dX6_book_4 : decode cX6_book 4 = .ok (.iload_n 1, 1) := by decide +kernel
theorem dX6_book_5 : decode cX6_book 5 = .ok (.iload_n 2, 1) := by decide +kernel
theorem dX6_book_6 : decode cX6_book 6 = .ok (.invokevirtual 73, 3) := by decide +kernel
theorem dX6_book_9 : decode cX6_book 9 = .ok (.aload_n 0, 1) := by decide +kernel
theorem dX6_book_10 : decode cX6_book 10 = .ok (.getfield 32, 3) := by decide +kernel
theorem dX6_book_13 : decode cX6_book 13 = .ok (.iload_n 1, 1) := by decide +kernel
theorem dX6_book_14 : decode cX6_book 14 = .ok (.aload_n 0, 1) := by decide +kernel
theorem dX6_book_15 : decode cX6_book 15 = .ok (.iload_n 1, 1) := by decide +kernel
theorem dX6_book_16 : decode cX6_book 16 = .ok (.iload_n 3, 1) := by decide +kernel
theorem dX6_book_17 : decode cX6_book 17 = .ok (.invokevirtual 76, 3) := by decide +kernel
theorem dX6_book_20 : decode cX6_book 20 = .ok (.iload_n 2, 1) := by decide +kernel
theorem dX6_book_21 : decode cX6_book 21 = .ok (.imul, 1) := by decide +kernel
theorem dX6_book_22 : decode cX6_book 22 = .ok (.invokevirtual 73, 3) := by decide +kernel
theorem dX6_book_25 : decode cX6_book 25 = .ok (.aload_n 0, 1) := by decide +kernel
theorem dX6_book_26 : decode cX6_book 26 = .ok (.getfield 35, 3) := by decide +kernel
theorem dX6_book_29 : decode cX6_book 29 = .ok (.iload_n 1, 1) := by decide +kernel
theorem dX6_book_30 : decode cX6_book 30 = .ok (.aload_n 0, 1) := by decide +kernel
theorem dX6_book_31 : decode cX6_book 31 = .ok (.getfield 14, 3) := by decide +kernel
theorem dX6_book_34 : decode cX6_book 34 = .ok (.iload_n 1, 1) := by decide +kernel
theorem dX6_book_35 : decode cX6_book 35 = .ok (.invokevirtual 62, 3) := by decide +kernel
theorem dX6_book_38 : decode cX6_book 38 = .ok (.ifCond .ne 8, 3) := by decide +kernel
theorem dX6_book_41 : decode cX6_book 41 = .ok (.iload_n 3, 1) := by decide +kernel
theorem dX6_book_42 : decode cX6_book 42 = .ok (.ineg, 1) := by decide +kernel
theorem dX6_book_43 : decode cX6_book 43 = .ok (.goto 4, 3) := by decide +kernel
theorem dX6_book_46 : decode cX6_book 46 = .ok (.iload_n 3, 1) := by decide +kernel
theorem dX6_book_47 : decode cX6_book 47 = .ok (.iload_n 2, 1) := by decide +kernel
theorem dX6_book_48 : decode cX6_book 48 = .ok (.imul, 1) := by decide +kernel
theorem dX6_book_49 : decode cX6_book 49 = .ok (.invokevirtual 73, 3) := by decide +kernel
theorem dX6_book_52 : decode cX6_book 52 = .ok (.return_, 1) := by decide +kernel
theorem dX6_learn_0 : decode cX6_learn 0 = .ok (.aload_n 0, 1) := by decide +kernel
theorem dX6_learn_1 : decode cX6_learn 1 = .ok (.getfield 23, 3) := by decide +kernel
theorem dX6_learn_4 : decode cX6_learn 4 = .ok (.iload_n 1, 1) := by decide +kernel
theorem dX6_learn_5 : decode cX6_learn 5 = .ok (.invokevirtual 62, 3) := by decide +kernel
theorem dX6_learn_8 : decode cX6_learn 8 = .ok (.iconst 3, 1) := by decide +kernel
theorem dX6_learn_9 : decode cX6_learn 9 = .ok (.if_icmp .ne 7, 3) := by decide +kernel
theorem dX6_learn_12 : decode cX6_learn 12 = .ok (.iload_n 2, 1) := by decide +kernel
theorem dX6_learn_13 : decode cX6_learn 13 = .ok (.ifCond .ne 4, 3) := by decide +kernel
theorem dX6_learn_16 : decode cX6_learn 16 = .ok (.return_, 1) := by decide +kernel
theorem dX6_learn_17 : decode cX6_learn 17 = .ok (.iload_n 3, 1) := by decide +kernel
theorem dX6_learn_18 : decode cX6_learn 18 = .ok (.iload_n 2, 1) := by decide +kernel
theorem dX6_learn_19 : decode cX6_learn 19 = .ok (.if_icmp .ne 29, 3) := by decide +kernel
theorem dX6_learn_22 : decode cX6_learn 22 = .ok (.aload_n 0, 1) := by decide +kernel
theorem dX6_learn_23 : decode cX6_learn 23 = .ok (.getfield 26, 3) := by decide +kernel
theorem dX6_learn_26 : decode cX6_learn 26 = .ok (.iload_n 1, 1) := by decide +kernel
theorem dX6_learn_27 : decode cX6_learn 27 = .ok (.bipush 50, 2) := by decide +kernel
theorem dX6_learn_29 : decode cX6_learn 29 = .ok (.aload_n 0, 1) := by decide +kernel
theorem dX6_learn_30 : decode cX6_learn 30 = .ok (.getfield 26, 3) := by decide +kernel
theorem dX6_learn_33 : decode cX6_learn 33 = .ok (.iload_n 1, 1) := by decide +kernel
theorem dX6_learn_34 : decode cX6_learn 34 = .ok (.invokevirtual 62, 3) := by decide +kernel
theorem dX6_learn_37 : decode cX6_learn 37 = .ok (.iconst 1, 1) := by decide +kernel
theorem dX6_learn_38 : decode cX6_learn 38 = .ok (.iadd, 1) := by decide +kernel
theorem dX6_learn_39 : decode cX6_learn 39 = .ok (.invokestatic 70, 3) := by decide +kernel
theorem dX6_learn_42 : decode cX6_learn 42 = .ok (.invokevirtual 46, 3) := by decide +kernel
theorem dX6_learn_45 : decode cX6_learn 45 = .ok (.goto 29, 3) := by decide +kernel
theorem dX6_learn_48 : decode cX6_learn 48 = .ok (.iload_n 3, 1) := by decide +kernel
theorem dX6_learn_49 : decode cX6_learn 49 = .ok (.ifCond .ne 25, 3) := by decide +kernel
theorem dX6_learn_52 : decode cX6_learn 52 = .ok (.aload_n 0, 1) := by decide +kernel
theorem dX6_learn_53 : decode cX6_learn 53 = .ok (.getfield 26, 3) := by decide +kernel
theorem dX6_learn_56 : decode cX6_learn 56 = .ok (.iload_n 1, 1) := by decide +kernel
theorem dX6_learn_57 : decode cX6_learn 57 = .ok (.iconst 0, 1) := by decide +kernel
theorem dX6_learn_58 : decode cX6_learn 58 = .ok (.aload_n 0, 1) := by decide +kernel
theorem dX6_learn_59 : decode cX6_learn 59 = .ok (.getfield 26, 3) := by decide +kernel
theorem dX6_learn_62 : decode cX6_learn 62 = .ok (.iload_n 1, 1) := by decide +kernel
theorem dX6_learn_63 : decode cX6_learn 63 = .ok (.invokevirtual 62, 3) := by decide +kernel
theorem dX6_learn_66 : decode cX6_learn 66 = .ok (.iconst 1, 1) := by decide +kernel
theorem dX6_learn_67 : decode cX6_learn 67 = .ok (.isub, 1) := by decide +kernel
theorem dX6_learn_68 : decode cX6_learn 68 = .ok (.invokestatic 65, 3) := by decide +kernel
theorem dX6_learn_71 : decode cX6_learn 71 = .ok (.invokevirtual 46, 3) := by decide +kernel
theorem dX6_learn_74 : decode cX6_learn 74 = .ok (.return_, 1) := by decide +kernel
theorem dX6_copyFrom_0 : decode cX6_copyFrom 0 = .ok (.aload_n 0, 1) := by decide +kernel
theorem dX6_copyFrom_1 : decode cX6_copyFrom 1 = .ok (.aload_n 1, 1) := by decide +kernel
theorem dX6_copyFrom_2 : decode cX6_copyFrom 2 = .ok (.getfield 38, 3) := by decide +kernel
theorem dX6_copyFrom_5 : decode cX6_copyFrom 5 = .ok (.putfield 38, 3) := by decide +kernel
theorem dX6_copyFrom_8 : decode cX6_copyFrom 8 = .ok (.aload_n 0, 1) := by decide +kernel
theorem dX6_copyFrom_9 : decode cX6_copyFrom 9 = .ok (.getfield 14, 3) := by decide +kernel
theorem dX6_copyFrom_12 : decode cX6_copyFrom 12 = .ok (.aload_n 1, 1) := by decide +kernel
theorem dX6_copyFrom_13 : decode cX6_copyFrom 13 = .ok (.getfield 14, 3) := by decide +kernel
theorem dX6_copyFrom_16 : decode cX6_copyFrom 16 = .ok (.invokevirtual 79, 3) := by decide +kernel
theorem dX6_copyFrom_19 : decode cX6_copyFrom 19 = .ok (.aload_n 0, 1) := by decide +kernel
theorem dX6_copyFrom_20 : decode cX6_copyFrom 20 = .ok (.getfield 20, 3) := by decide +kernel
theorem dX6_copyFrom_23 : decode cX6_copyFrom 23 = .ok (.aload_n 1, 1) := by decide +kernel
theorem dX6_copyFrom_24 : decode cX6_copyFrom 24 = .ok (.getfield 20, 3) := by decide +kernel
theorem dX6_copyFrom_27 : decode cX6_copyFrom 27 = .ok (.invokevirtual 79, 3) := by decide +kernel
theorem dX6_copyFrom_30 : decode cX6_copyFrom 30 = .ok (.aload_n 0, 1) := by decide +kernel
theorem dX6_copyFrom_31 : decode cX6_copyFrom 31 = .ok (.getfield 23, 3) := by decide +kernel
theorem dX6_copyFrom_34 : decode cX6_copyFrom 34 = .ok (.aload_n 1, 1) := by decide +kernel
theorem dX6_copyFrom_35 : decode cX6_copyFrom 35 = .ok (.getfield 23, 3) := by decide +kernel
theorem dX6_copyFrom_38 : decode cX6_copyFrom 38 = .ok (.invokevirtual 79, 3) := by decide +kernel
theorem dX6_copyFrom_41 : decode cX6_copyFrom 41 = .ok (.aload_n 0, 1) := by decide +kernel
theorem dX6_copyFrom_42 : decode cX6_copyFrom 42 = .ok (.getfield 26, 3) := by decide +kernel
theorem dX6_copyFrom_45 : decode cX6_copyFrom 45 = .ok (.aload_n 1, 1) := by decide +kernel
theorem dX6_copyFrom_46 : decode cX6_copyFrom 46 = .ok (.getfield 26, 3) := by decide +kernel
theorem dX6_copyFrom_49 : decode cX6_copyFrom 49 = .ok (.invokevirtual 79, 3) := by decide +kernel
theorem dX6_copyFrom_52 : decode cX6_copyFrom 52 = .ok (.aload_n 0, 1) := by decide +kernel
theorem dX6_copyFrom_53 : decode cX6_copyFrom 53 = .ok (.getfield 29, 3) := by decide +kernel
theorem dX6_copyFrom_56 : decode cX6_copyFrom 56 = .ok (.aload_n 1, 1) := by decide +kernel
theorem dX6_copyFrom_57 : decode cX6_copyFrom 57 = .ok (.getfield 29, 3) := by decide +kernel
theorem dX6_copyFrom_60 : decode cX6_copyFrom 60 = .ok (.invokevirtual 79, 3) := by decide +kernel
theorem dX6_copyFrom_63 : decode cX6_copyFrom 63 = .ok (.aload_n 0, 1) := by decide +kernel
theorem dX6_copyFrom_64 : decode cX6_copyFrom 64 = .ok (.getfield 32, 3) := by decide +kernel
theorem dX6_copyFrom_67 : decode cX6_copyFrom 67 = .ok (.aload_n 1, 1) := by decide +kernel
theorem dX6_copyFrom_68 : decode cX6_copyFrom 68 = .ok (.getfield 32, 3) := by decide +kernel
theorem dX6_copyFrom_71 : decode cX6_copyFrom 71 = .ok (.invokevirtual 79, 3) := by decide +kernel
theorem dX6_copyFrom_74 : decode cX6_copyFrom 74 = .ok (.aload_n 0, 1) := by decide +kernel
theorem dX6_copyFrom_75 : decode cX6_copyFrom 75 = .ok (.getfield 35, 3) := by decide +kernel
theorem dX6_copyFrom_78 : decode cX6_copyFrom 78 = .ok (.aload_n 1, 1) := by decide +kernel
theorem dX6_copyFrom_79 : decode cX6_copyFrom 79 = .ok (.getfield 35, 3) := by decide +kernel
theorem dX6_copyFrom_82 : decode cX6_copyFrom 82 = .ok (.invokevirtual 79, 3) := by decide +kernel
theorem dX6_copyFrom_85 : decode cX6_copyFrom 85 = .ok (.return_, 1) := by decide +kernel
theorem dX6_shadeOf_0 : decode cX6_shadeOf 0 = .ok (.aload_n 0, 1) := by decide +kernel
theorem dX6_shadeOf_1 : decode cX6_shadeOf 1 = .ok (.getfield 23, 3) := by decide +kernel
theorem dX6_shadeOf_4 : decode cX6_shadeOf 4 = .ok (.iload_n 1, 1) := by decide +kernel
theorem dX6_shadeOf_5 : decode cX6_shadeOf 5 = .ok (.invokevirtual 62, 3) := by decide +kernel
theorem dX6_shadeOf_8 : decode cX6_shadeOf 8 = .ok (.tableswitch 58 1 3 #[28, 37, 28], 28) := by decide +kernel
theorem dX6_shadeOf_36 : decode cX6_shadeOf 36 = .ok (.aload_n 0, 1) := by decide +kernel
theorem dX6_shadeOf_37 : decode cX6_shadeOf 37 = .ok (.getfield 26, 3) := by decide +kernel
theorem dX6_shadeOf_40 : decode cX6_shadeOf 40 = .ok (.iload_n 1, 1) := by decide +kernel
theorem dX6_shadeOf_41 : decode cX6_shadeOf 41 = .ok (.invokevirtual 62, 3) := by decide +kernel
theorem dX6_shadeOf_44 : decode cX6_shadeOf 44 = .ok (.ireturn, 1) := by decide +kernel
theorem dX6_shadeOf_45 : decode cX6_shadeOf 45 = .ok (.aload_n 0, 1) := by decide +kernel
theorem dX6_shadeOf_46 : decode cX6_shadeOf 46 = .ok (.getfield 20, 3) := by decide +kernel
theorem dX6_shadeOf_49 : decode cX6_shadeOf 49 = .ok (.iload_n 1, 1) := by decide +kernel
theorem dX6_shadeOf_50 : decode cX6_shadeOf 50 = .ok (.invokevirtual 62, 3) := by decide +kernel
theorem dX6_shadeOf_53 : decode cX6_shadeOf 53 = .ok (.aload_n 0, 1) := by decide +kernel
theorem dX6_shadeOf_54 : decode cX6_shadeOf 54 = .ok (.getfield 26, 3) := by decide +kernel
theorem dX6_shadeOf_57 : decode cX6_shadeOf 57 = .ok (.iload_n 1, 1) := by decide +kernel
theorem dX6_shadeOf_58 : decode cX6_shadeOf 58 = .ok (.invokevirtual 62, 3) := by decide +kernel
theorem dX6_shadeOf_61 : decode cX6_shadeOf 61 = .ok (.imul, 1) := by decide +kernel
theorem dX6_shadeOf_62 : decode cX6_shadeOf 62 = .ok (.bipush 100, 2) := by decide +kernel
theorem dX6_shadeOf_64 : decode cX6_shadeOf 64 = .ok (.idiv, 1) := by decide +kernel
theorem dX6_shadeOf_65 : decode cX6_shadeOf 65 = .ok (.ireturn, 1) := by decide +kernel
theorem dX6_shadeOf_66 : decode cX6_shadeOf 66 = .ok (.iconst 0, 1) := by decide +kernel
theorem dX6_shadeOf_67 : decode cX6_shadeOf 67 = .ok (.ireturn, 1) := by decide +kernel
theorem dX7_init_0 : decode cX7_init 0 = .ok (.aload_n 0, 1) := by decide +kernel
theorem dX7_init_1 : decode cX7_init 1 = .ok (.invokespecial 3, 3) := by decide +kernel
theorem dX7_init_4 : decode cX7_init 4 = .ok (.aload_n 0, 1) := by decide +kernel
theorem dX7_init_5 : decode cX7_init 5 = .ok (.new 9, 3) := by decide +kernel
theorem dX7_init_8 : decode cX7_init 8 = .ok (.dup, 1) := by decide +kernel
theorem dX7_init_9 : decode cX7_init 9 = .ok (.bipush 20, 2) := by decide +kernel
theorem dX7_init_11 : decode cX7_init 11 = .ok (.invokespecial 11, 3) := by decide +kernel
theorem dX7_init_14 : decode cX7_init 14 = .ok (.putfield 14, 3) := by decide +kernel
theorem dX7_init_17 : decode cX7_init 17 = .ok (.aload_n 0, 1) := by decide +kernel
theorem dX7_init_18 : decode cX7_init 18 = .ok (.new 9, 3) := by decide +kernel
theorem dX7_init_21 : decode cX7_init 21 = .ok (.dup, 1) := by decide +kernel
theorem dX7_init_22 : decode cX7_init 22 = .ok (.bipush 20, 2) := by decide +kernel
theorem dX7_init_24 : decode cX7_init 24 = .ok (.invokespecial 11, 3) := by decide +kernel
theorem dX7_init_27 : decode cX7_init 27 = .ok (.putfield 20, 3) := by decide +kernel
theorem dX7_init_30 : decode cX7_init 30 = .ok (.aload_n 0, 1) := by decide +kernel
theorem dX7_init_31 : decode cX7_init 31 = .ok (.new 9, 3) := by decide +kernel
theorem dX7_init_34 : decode cX7_init 34 = .ok (.dup, 1) := by decide +kernel
theorem dX7_init_35 : decode cX7_init 35 = .ok (.bipush 20, 2) := by decide +kernel
theorem dX7_init_37 : decode cX7_init 37 = .ok (.invokespecial 11, 3) := by decide +kernel
theorem dX7_init_40 : decode cX7_init 40 = .ok (.putfield 23, 3) := by decide +kernel
theorem dX7_init_43 : decode cX7_init 43 = .ok (.aload_n 0, 1) := by decide +kernel
theorem dX7_init_44 : decode cX7_init 44 = .ok (.new 9, 3) := by decide +kernel
theorem dX7_init_47 : decode cX7_init 47 = .ok (.dup, 1) := by decide +kernel
theorem dX7_init_48 : decode cX7_init 48 = .ok (.bipush 20, 2) := by decide +kernel
theorem dX7_init_50 : decode cX7_init 50 = .ok (.invokespecial 11, 3) := by decide +kernel
theorem dX7_init_53 : decode cX7_init 53 = .ok (.putfield 26, 3) := by decide +kernel
theorem dX7_init_56 : decode cX7_init 56 = .ok (.aload_n 0, 1) := by decide +kernel
theorem dX7_init_57 : decode cX7_init 57 = .ok (.new 9, 3) := by decide +kernel
theorem dX7_init_60 : decode cX7_init 60 = .ok (.dup, 1) := by decide +kernel
theorem dX7_init_61 : decode cX7_init 61 = .ok (.bipush 20, 2) := by decide +kernel
theorem dX7_init_63 : decode cX7_init 63 = .ok (.invokespecial 11, 3) := by decide +kernel
theorem dX7_init_66 : decode cX7_init 66 = .ok (.putfield 29, 3) := by decide +kernel
theorem dX7_init_69 : decode cX7_init 69 = .ok (.return_, 1) := by decide +kernel
theorem dX7_append_0 : decode cX7_append 0 = .ok (.aload_n 0, 1) := by decide +kernel
theorem dX7_append_1 : decode cX7_append 1 = .ok (.getfield 14, 3) := by decide +kernel
theorem dX7_append_4 : decode cX7_append 4 = .ok (.aload_n 0, 1) := by decide +kernel
theorem dX7_append_5 : decode cX7_append 5 = .ok (.getfield 32, 3) := by decide +kernel
theorem dX7_append_8 : decode cX7_append 8 = .ok (.aload_n 1, 1) := by decide +kernel
theorem dX7_append_9 : decode cX7_append 9 = .ok (.getfield 36, 3) := by decide +kernel
theorem dX7_append_12 : decode cX7_append 12 = .ok (.iload_n 2, 1) := by decide +kernel
theorem dX7_append_13 : decode cX7_append 13 = .ok (.invokevirtual 41, 3) := by decide +kernel
theorem dX7_append_16 : decode cX7_append 16 = .ok (.invokevirtual 45, 3) := by decide +kernel
theorem dX7_append_19 : decode cX7_append 19 = .ok (.aload_n 0, 1) := by decide +kernel
theorem dX7_append_20 : decode cX7_append 20 = .ok (.getfield 20, 3) := by decide +kernel
theorem dX7_append_23 : decode cX7_append 23 = .ok (.aload_n 0, 1) := by decide +kernel
theorem dX7_append_24 : decode cX7_append 24 = .ok (.getfield 32, 3) := by decide +kernel
theorem dX7_append_27 : decode cX7_append 27 = .ok (.aload_n 1, 1) := by decide +kernel
theorem dX7_append_28 : decode cX7_append 28 = .ok (.getfield 36, 3) := by decide +kernel
theorem dX7_append_31 : decode cX7_append 31 = .ok (.iload_n 3, 1) := by decide +kernel
theorem dX7_append_32 : decode cX7_append 32 = .ok (.invokevirtual 41, 3) := by decide +kernel
theorem dX7_append_35 : decode cX7_append 35 = .ok (.invokevirtual 45, 3) := by decide +kernel
theorem dX7_append_38 : decode cX7_append 38 = .ok (.aload_n 0, 1) := by decide +kernel
theorem dX7_append_39 : decode cX7_append 39 = .ok (.getfield 23, 3) := by decide +kernel
theorem dX7_append_42 : decode cX7_append 42 = .ok (.aload_n 0, 1) := by decide +kernel
theorem dX7_append_43 : decode cX7_append 43 = .ok (.getfield 32, 3) := by decide +kernel
theorem dX7_append_46 : decode cX7_append 46 = .ok (.iload 4, 2) := by decide +kernel
theorem dX7_append_48 : decode cX7_append 48 = .ok (.invokevirtual 45, 3) := by decide +kernel
theorem dX7_append_51 : decode cX7_append 51 = .ok (.aload_n 0, 1) := by decide +kernel
theorem dX7_append_52 : decode cX7_append 52 = .ok (.getfield 26, 3) := by decide +kernel
theorem dX7_append_55 : decode cX7_append 55 = .ok (.aload_n 0, 1) := by decide +kernel
theorem dX7_append_56 : decode cX7_append 56 = .ok (.getfield 32, 3) := by decide +kernel
theorem dX7_append_59 : decode cX7_append 59 = .ok (.aload_n 1, 1) := by decide +kernel
theorem dX7_append_60 : decode cX7_append 60 = .ok (.getfield 49, 3) := by decide +kernel
theorem dX7_append_63 : decode cX7_append 63 = .ok (.iload_n 2, 1) := by decide +kernel
theorem dX7_append_64 : decode cX7_append 64 = .ok (.invokevirtual 41, 3) := by decide +kernel
theorem dX7_append_67 : decode cX7_append 67 = .ok (.invokevirtual 45, 3) := by decide +kernel
theorem dX7_append_70 : decode cX7_append 70 = .ok (.aload_n 0, 1) := by decide +kernel
theorem dX7_append_71 : decode cX7_append 71 = .ok (.getfield 29, 3) := by decide +kernel
theorem dX7_append_74 : decode cX7_append 74 = .ok (.aload_n 0, 1) := by decide +kernel
theorem dX7_append_75 : decode cX7_append 75 = .ok (.getfield 32, 3) := by decide +kernel
theorem dX7_append_78 : decode cX7_append 78 = .ok (.aload_n 1, 1) := by decide +kernel
theorem dX7_append_79 : decode cX7_append 79 = .ok (.getfield 49, 3) := by decide +kernel
theorem dX7_append_82 : decode cX7_append 82 = .ok (.iload_n 3, 1) := by decide +kernel
theorem dX7_append_83 : decode cX7_append 83 = .ok (.invokevirtual 41, 3) := by decide +kernel
theorem dX7_append_86 : decode cX7_append 86 = .ok (.invokevirtual 45, 3) := by decide +kernel
theorem dX7_append_89 : decode cX7_append 89 = .ok (.aload_n 0, 1) := by decide +kernel
theorem dX7_append_90 : decode cX7_append 90 = .ok (.dup, 1) := by decide +kernel
theorem dX7_append_91 : decode cX7_append 91 = .ok (.getfield 32, 3) := by decide +kernel
theorem dX7_append_94 : decode cX7_append 94 = .ok (.iconst 1, 1) := by decide +kernel
theorem dX7_append_95 : decode cX7_append 95 = .ok (.iadd, 1) := by decide +kernel
theorem dX7_append_96 : decode cX7_append 96 = .ok (.putfield 32, 3) := by decide +kernel
theorem dX7_append_99 : decode cX7_append 99 = .ok (.return_, 1) := by decide +kernel
theorem dX7_valueOf_0 : decode cX7_valueOf 0 = .ok (.iload_n 1, 1) := by decide +kernel
theorem dX7_valueOf_1 : decode cX7_valueOf 1 = .ok (.aload_n 0, 1) := by decide +kernel
theorem dX7_valueOf_2 : decode cX7_valueOf 2 = .ok (.getfield 32, 3) := by decide +kernel
theorem dX7_valueOf_5 : decode cX7_valueOf 5 = .ok (.if_icmp .lt 7, 3) := by decide +kernel
theorem dX7_valueOf_8 : decode cX7_valueOf 8 = .ok (.sipush (-10000), 3) := by decide +kernel
theorem dX7_valueOf_11 : decode cX7_valueOf 11 = .ok (.ireturn, 1) := by decide +kernel
theorem dX7_valueOf_12 : decode cX7_valueOf 12 = .ok (.iload_n 2, 1) := by decide +kernel
theorem dX7_valueOf_13 : decode cX7_valueOf 13 = .ok (.tableswitch 67 0 3 #[31, 40, 49, 58], 31) := by decide +kernel
theorem dX7_valueOf_44 : decode cX7_valueOf 44 = .ok (.aload_n 0, 1) := by decide +kernel
theorem dX7_valueOf_45 : decode cX7_valueOf 45 = .ok (.getfield 14, 3) := by decide +kernel
theorem dX7_valueOf_48 : decode cX7_valueOf 48 = .ok (.iload_n 1, 1) := by decide +kernel
theorem dX7_valueOf_49 : decode cX7_valueOf 49 = .ok (.invokevirtual 41, 3) := by decide +kernel
theorem dX7_valueOf_52 : decode cX7_valueOf 52 = .ok (.ireturn, 1) := by decide +kernel
theorem dX7_valueOf_53 : decode cX7_valueOf 53 = .ok (.aload_n 0, 1) := by decide +kernel
theorem dX7_valueOf_54 : decode cX7_valueOf 54 = .ok (.getfield 20, 3) := by decide +kernel
theorem dX7_valueOf_57 : decode cX7_valueOf 57 = .ok (.iload_n 1, 1) := by decide +kernel
theorem dX7_valueOf_58 : decode cX7_valueOf 58 = .ok (.invokevirtual 41, 3) := by decide +kernel
theorem dX7_valueOf_61 : decode cX7_valueOf 61 = .ok (.ireturn, 1) := by decide +kernel
theorem dX7_valueOf_62 : decode cX7_valueOf 62 = .ok (.aload_n 0, 1) := by decide +kernel
theorem dX7_valueOf_63 : decode cX7_valueOf 63 = .ok (.getfield 23, 3) := by decide +kernel
theorem dX7_valueOf_66 : decode cX7_valueOf 66 = .ok (.iload_n 1, 1) := by decide +kernel
theorem dX7_valueOf_67 : decode cX7_valueOf 67 = .ok (.invokevirtual 41, 3) := by decide +kernel
theorem dX7_valueOf_70 : decode cX7_valueOf 70 = .ok (.ireturn, 1) := by decide +kernel
theorem dX7_valueOf_71 : decode cX7_valueOf 71 = .ok (.aload_n 0, 1) := by decide +kernel
theorem dX7_valueOf_72 : decode cX7_valueOf 72 = .ok (.getfield 26, 3) := by decide +kernel
theorem dX7_valueOf_75 : decode cX7_valueOf 75 = .ok (.iload_n 1, 1) := by decide +kernel
theorem dX7_valueOf_76 : decode cX7_valueOf 76 = .ok (.invokevirtual 41, 3) := by decide +kernel
theorem dX7_valueOf_79 : decode cX7_valueOf 79 = .ok (.ireturn, 1) := by decide +kernel
theorem dX7_valueOf_80 : decode cX7_valueOf 80 = .ok (.aload_n 0, 1) := by decide +kernel
theorem dX7_valueOf_81 : decode cX7_valueOf 81 = .ok (.getfield 29, 3) := by decide +kernel
theorem dX7_valueOf_84 : decode cX7_valueOf 84 = .ok (.iload_n 1, 1) := by decide +kernel
theorem dX7_valueOf_85 : decode cX7_valueOf 85 = .ok (.invokevirtual 41, 3) := by decide +kernel
theorem dX7_valueOf_88 : decode cX7_valueOf 88 = .ok (.ireturn, 1) := by decide +kernel
theorem dX7_copyFrom_0 : decode cX7_copyFrom 0 = .ok (.aload_n 0, 1) := by decide +kernel
theorem dX7_copyFrom_1 : decode cX7_copyFrom 1 = .ok (.aload_n 1, 1) := by decide +kernel
theorem dX7_copyFrom_2 : decode cX7_copyFrom 2 = .ok (.getfield 32, 3) := by decide +kernel
theorem dX7_copyFrom_5 : decode cX7_copyFrom 5 = .ok (.putfield 32, 3) := by decide +kernel
theorem dX7_copyFrom_8 : decode cX7_copyFrom 8 = .ok (.aload_n 0, 1) := by decide +kernel
theorem dX7_copyFrom_9 : decode cX7_copyFrom 9 = .ok (.getfield 14, 3) := by decide +kernel
theorem dX7_copyFrom_12 : decode cX7_copyFrom 12 = .ok (.aload_n 1, 1) := by decide +kernel
theorem dX7_copyFrom_13 : decode cX7_copyFrom 13 = .ok (.getfield 14, 3) := by decide +kernel
theorem dX7_copyFrom_16 : decode cX7_copyFrom 16 = .ok (.invokevirtual 52, 3) := by decide +kernel
theorem dX7_copyFrom_19 : decode cX7_copyFrom 19 = .ok (.aload_n 0, 1) := by decide +kernel
theorem dX7_copyFrom_20 : decode cX7_copyFrom 20 = .ok (.getfield 20, 3) := by decide +kernel
theorem dX7_copyFrom_23 : decode cX7_copyFrom 23 = .ok (.aload_n 1, 1) := by decide +kernel
theorem dX7_copyFrom_24 : decode cX7_copyFrom 24 = .ok (.getfield 20, 3) := by decide +kernel
theorem dX7_copyFrom_27 : decode cX7_copyFrom 27 = .ok (.invokevirtual 52, 3) := by decide +kernel
theorem dX7_copyFrom_30 : decode cX7_copyFrom 30 = .ok (.aload_n 0, 1) := by decide +kernel
theorem dX7_copyFrom_31 : decode cX7_copyFrom 31 = .ok (.getfield 23, 3) := by decide +kernel
theorem dX7_copyFrom_34 : decode cX7_copyFrom 34 = .ok (.aload_n 1, 1) := by decide +kernel
theorem dX7_copyFrom_35 : decode cX7_copyFrom 35 = .ok (.getfield 23, 3) := by decide +kernel
theorem dX7_copyFrom_38 : decode cX7_copyFrom 38 = .ok (.invokevirtual 52, 3) := by decide +kernel
theorem dX7_copyFrom_41 : decode cX7_copyFrom 41 = .ok (.aload_n 0, 1) := by decide +kernel
theorem dX7_copyFrom_42 : decode cX7_copyFrom 42 = .ok (.getfield 26, 3) := by decide +kernel
theorem dX7_copyFrom_45 : decode cX7_copyFrom 45 = .ok (.aload_n 1, 1) := by decide +kernel
theorem dX7_copyFrom_46 : decode cX7_copyFrom 46 = .ok (.getfield 26, 3) := by decide +kernel
theorem dX7_copyFrom_49 : decode cX7_copyFrom 49 = .ok (.invokevirtual 52, 3) := by decide +kernel
theorem dX7_copyFrom_52 : decode cX7_copyFrom 52 = .ok (.aload_n 0, 1) := by decide +kernel
theorem dX7_copyFrom_53 : decode cX7_copyFrom 53 = .ok (.getfield 29, 3) := by decide +kernel
theorem dX7_copyFrom_56 : decode cX7_copyFrom 56 = .ok (.aload_n 1, 1) := by decide +kernel
theorem dX7_copyFrom_57 : decode cX7_copyFrom 57 = .ok (.getfield 29, 3) := by decide +kernel
theorem dX7_copyFrom_60 : decode cX7_copyFrom 60 = .ok (.invokevirtual 52, 3) := by decide +kernel
theorem dX7_copyFrom_63 : decode cX7_copyFrom 63 = .ok (.return_, 1) := by decide +kernel
theorem dX8_init_0 : decode cX8_init 0 = .ok (.aload_n 0, 1) := by decide +kernel
theorem dX8_init_1 : decode cX8_init 1 = .ok (.invokespecial 3, 3) := by decide +kernel
theorem dX8_init_4 : decode cX8_init 4 = .ok (.aload_n 0, 1) := by decide +kernel
theorem dX8_init_5 : decode cX8_init 5 = .ok (.iconst 4, 1) := by decide +kernel
theorem dX8_init_6 : decode cX8_init 6 = .ok (.anewarray 9, 3) := by decide +kernel
theorem dX8_init_9 : decode cX8_init 9 = .ok (.putfield 11, 3) := by decide +kernel
theorem dX8_init_12 : decode cX8_init 12 = .ok (.iconst 0, 1) := by decide +kernel
theorem dX8_init_13 : decode cX8_init 13 = .ok (.istore_n 1, 1) := by decide +kernel
theorem dX8_init_14 : decode cX8_init 14 = .ok (.iload_n 1, 1) := by decide +kernel
theorem dX8_init_15 : decode cX8_init 15 = .ok (.aload_n 0, 1) := by decide +kernel
theorem dX8_init_16 : decode cX8_init 16 = .ok (.getfield 11, 3) := by decide +kernel
theorem dX8_init_19 : decode cX8_init 19 = .ok (.arraylength, 1) := by decide +kernel
theorem dX8_init_20 : decode cX8_init 20 = .ok (.if_icmp .ge 22, 3) := by decide +kernel
theorem dX8_init_23 : decode cX8_init 23 = .ok (.aload_n 0, 1) := by decide +kernel
theorem dX8_init_24 : decode cX8_init 24 = .ok (.getfield 11, 3) := by decide +kernel
theorem dX8_init_27 : decode cX8_init 27 = .ok (.iload_n 1, 1) := by decide +kernel
theorem dX8_init_28 : decode cX8_init 28 = .ok (.new 9, 3) := by decide +kernel
theorem dX8_init_31 : decode cX8_init 31 = .ok (.dup, 1) := by decide +kernel
theorem dX8_init_32 : decode cX8_init 32 = .ok (.invokespecial 17, 3) := by decide +kernel
theorem dX8_init_35 : decode cX8_init 35 = .ok (.aastore, 1) := by decide +kernel
theorem dX8_init_36 : decode cX8_init 36 = .ok (.iinc 1 1, 3) := by decide +kernel
theorem dX8_init_39 : decode cX8_init 39 = .ok (.goto (-25), 3) := by decide +kernel
theorem dX8_init_42 : decode cX8_init 42 = .ok (.return_, 1) := by decide +kernel
theorem dX8_push_0 : decode cX8_push 0 = .ok (.aload_n 0, 1) := by decide +kernel
theorem dX8_push_1 : decode cX8_push 1 = .ok (.getfield 18, 3) := by decide +kernel
theorem dX8_push_4 : decode cX8_push 4 = .ok (.iconst 4, 1) := by decide +kernel
theorem dX8_push_5 : decode cX8_push 5 = .ok (.if_icmp .ne 27, 3) := by decide +kernel
theorem dX8_push_8 : decode cX8_push 8 = .ok (.aload_n 0, 1) := by decide +kernel
theorem dX8_push_9 : decode cX8_push 9 = .ok (.aload_n 0, 1) := by decide +kernel
theorem dX8_push_10 : decode cX8_push 10 = .ok (.getfield 22, 3) := by decide +kernel
theorem dX8_push_13 : decode cX8_push 13 = .ok (.iconst 1, 1) := by decide +kernel
theorem dX8_push_14 : decode cX8_push 14 = .ok (.iadd, 1) := by decide +kernel
theorem dX8_push_15 : decode cX8_push 15 = .ok (.iconst 4, 1) := by decide +kernel
theorem dX8_push_16 : decode cX8_push 16 = .ok (.invokestatic 25, 3) := by decide +kernel
theorem dX8_push_19 : decode cX8_push 19 = .ok (.putfield 22, 3) := by decide +kernel
theorem dX8_push_22 : decode cX8_push 22 = .ok (.aload_n 0, 1) := by decide +kernel
theorem dX8_push_23 : decode cX8_push 23 = .ok (.dup, 1) := by decide +kernel
theorem dX8_push_24 : decode cX8_push 24 = .ok (.getfield 18, 3) := by decide +kernel
theorem dX8_push_27 : decode cX8_push 27 = .ok (.iconst 1, 1) := by decide +kernel
theorem dX8_push_28 : decode cX8_push 28 = .ok (.isub, 1) := by decide +kernel
theorem dX8_push_29 : decode cX8_push 29 = .ok (.putfield 18, 3) := by decide +kernel
theorem dX8_push_32 : decode cX8_push 32 = .ok (.aload_n 0, 1) := by decide +kernel
theorem dX8_push_33 : decode cX8_push 33 = .ok (.aload_n 0, 1) := by decide +kernel
theorem dX8_push_34 : decode cX8_push 34 = .ok (.getfield 18, 3) := by decide +kernel
theorem dX8_push_37 : decode cX8_push 37 = .ok (.invokevirtual 31, 3) := by decide +kernel
theorem dX8_push_40 : decode cX8_push 40 = .ok (.astore_n 2, 1) := by decide +kernel
theorem dX8_push_41 : decode cX8_push 41 = .ok (.aload_n 2, 1) := by decide +kernel
theorem dX8_push_42 : decode cX8_push 42 = .ok (.ifnull 8, 3) := by decide +kernel
theorem dX8_push_45 : decode cX8_push 45 = .ok (.aload_n 2, 1) := by decide +kernel
theorem dX8_push_46 : decode cX8_push 46 = .ok (.aload_n 1, 1) := by decide +kernel
theorem dX8_push_47 : decode cX8_push 47 = .ok (.invokevirtual 35, 3) := by decide +kernel
theorem dX8_push_50 : decode cX8_push 50 = .ok (.aload_n 0, 1) := by decide +kernel
theorem dX8_push_51 : decode cX8_push 51 = .ok (.dup, 1) := by decide +kernel
theorem dX8_push_52 : decode cX8_push 52 = .ok (.getfield 18, 3) := by decide +kernel
theorem dX8_push_55 : decode cX8_push 55 = .ok (.iconst 1, 1) := by decide +kernel
theorem dX8_push_56 : decode cX8_push 56 = .ok (.iadd, 1) := by decide +kernel
theorem dX8_push_57 : decode cX8_push 57 = .ok (.putfield 18, 3) := by decide +kernel
theorem dX8_push_60 : decode cX8_push 60 = .ok (.return_, 1) := by decide +kernel
theorem dX8_pop_0 : decode cX8_pop 0 = .ok (.aload_n 0, 1) := by decide +kernel
theorem dX8_pop_1 : decode cX8_pop 1 = .ok (.getfield 18, 3) := by decide +kernel
theorem dX8_pop_4 : decode cX8_pop 4 = .ok (.ifCond .ne 4, 3) := by decide +kernel
theorem dX8_pop_7 : decode cX8_pop 7 = .ok (.return_, 1) := by decide +kernel
theorem dX8_pop_8 : decode cX8_pop 8 = .ok (.aload_n 0, 1) := by decide +kernel
theorem dX8_pop_9 : decode cX8_pop 9 = .ok (.dup, 1) := by decide +kernel
theorem dX8_pop_10 : decode cX8_pop 10 = .ok (.getfield 18, 3) := by decide +kernel
theorem dX8_pop_13 : decode cX8_pop 13 = .ok (.iconst 1, 1) := by decide +kernel
theorem dX8_pop_14 : decode cX8_pop 14 = .ok (.isub, 1) := by decide +kernel
theorem dX8_pop_15 : decode cX8_pop 15 = .ok (.putfield 18, 3) := by decide +kernel
theorem dX8_pop_18 : decode cX8_pop 18 = .ok (.aload_n 0, 1) := by decide +kernel
theorem dX8_pop_19 : decode cX8_pop 19 = .ok (.aload_n 0, 1) := by decide +kernel
theorem dX8_pop_20 : decode cX8_pop 20 = .ok (.getfield 18, 3) := by decide +kernel
theorem dX8_pop_23 : decode cX8_pop 23 = .ok (.invokevirtual 31, 3) := by decide +kernel
theorem dX8_pop_26 : decode cX8_pop 26 = .ok (.astore_n 2, 1) := by decide +kernel
theorem dX8_pop_27 : decode cX8_pop 27 = .ok (.aload_n 2, 1) := by decide +kernel
theorem dX8_pop_28 : decode cX8_pop 28 = .ok (.ifnull 8, 3) := by decide +kernel
theorem dX8_pop_31 : decode cX8_pop 31 = .ok (.aload_n 1, 1) := by decide +kernel
theorem dX8_pop_32 : decode cX8_pop 32 = .ok (.aload_n 2, 1) := by decide +kernel
theorem dX8_pop_33 : decode cX8_pop 33 = .ok (.invokevirtual 35, 3) := by decide +kernel
theorem dX8_pop_36 : decode cX8_pop 36 = .ok (.return_, 1) := by decide +kernel
theorem dX8_placeOf_0 : decode cX8_placeOf 0 = .ok (.aload_n 0, 1) := by decide +kernel
theorem dX8_placeOf_1 : decode cX8_placeOf 1 = .ok (.getfield 22, 3) := by decide +kernel
theorem dX8_placeOf_4 : decode cX8_placeOf 4 = .ok (.iload_n 1, 1) := by decide +kernel
theorem dX8_placeOf_5 : decode cX8_placeOf 5 = .ok (.iadd, 1) := by decide +kernel
theorem dX8_placeOf_6 : decode cX8_placeOf 6 = .ok (.iconst 4, 1) := by decide +kernel
theorem dX8_placeOf_7 : decode cX8_placeOf 7 = .ok (.invokestatic 25, 3) := by decide +kernel
theorem dX8_placeOf_10 : decode cX8_placeOf 10 = .ok (.istore_n 2, 1) := by decide +kernel
theorem dX8_placeOf_11 : decode cX8_placeOf 11 = .ok (.iload_n 2, 1) := by decide +kernel
theorem dX8_placeOf_12 : decode cX8_placeOf 12 = .ok (.ifCond .lt 21, 3) := by decide +kernel
theorem dX8_placeOf_15 : decode cX8_placeOf 15 = .ok (.iload_n 2, 1) := by decide +kernel
theorem dX8_placeOf_16 : decode cX8_placeOf 16 = .ok (.aload_n 0, 1) := by decide +kernel
theorem dX8_placeOf_17 : decode cX8_placeOf 17 = .ok (.getfield 11, 3) := by decide +kernel
theorem dX8_placeOf_20 : decode cX8_placeOf 20 = .ok (.arraylength, 1) := by decide +kernel
theorem dX8_placeOf_21 : decode cX8_placeOf 21 = .ok (.if_icmp .ge 12, 3) := by decide +kernel
theorem dX8_placeOf_24 : decode cX8_placeOf 24 = .ok (.aload_n 0, 1) := by decide +kernel
theorem dX8_placeOf_25 : decode cX8_placeOf 25 = .ok (.getfield 11, 3) := by decide +kernel
theorem dX8_placeOf_28 : decode cX8_placeOf 28 = .ok (.iload_n 2, 1) := by decide +kernel
theorem dX8_placeOf_29 : decode cX8_placeOf 29 = .ok (.aaload, 1) := by decide +kernel
theorem dX8_placeOf_30 : decode cX8_placeOf 30 = .ok (.goto 4, 3) := by decide +kernel
theorem dX8_placeOf_33 : decode cX8_placeOf 33 = .ok (.aconst_null, 1) := by decide +kernel
theorem dX8_placeOf_34 : decode cX8_placeOf 34 = .ok (.areturn, 1) := by decide +kernel
theorem dX10_init_0 : decode cX10_init 0 = .ok (.aload_n 0, 1) := by decide +kernel
theorem dX10_init_1 : decode cX10_init 1 = .ok (.invokespecial 1, 3) := by decide +kernel
theorem dX10_init_4 : decode cX10_init 4 = .ok (.aload_n 0, 1) := by decide +kernel
theorem dX10_init_5 : decode cX10_init 5 = .ok (.new 7, 3) := by decide +kernel
theorem dX10_init_8 : decode cX10_init 8 = .ok (.dup, 1) := by decide +kernel
theorem dX10_init_9 : decode cX10_init 9 = .ok (.invokespecial 9, 3) := by decide +kernel
theorem dX10_init_12 : decode cX10_init 12 = .ok (.putfield 10, 3) := by decide +kernel
theorem dX10_init_15 : decode cX10_init 15 = .ok (.aload_n 0, 1) := by decide +kernel
theorem dX10_init_16 : decode cX10_init 16 = .ok (.new 7, 3) := by decide +kernel
theorem dX10_init_19 : decode cX10_init 19 = .ok (.dup, 1) := by decide +kernel
theorem dX10_init_20 : decode cX10_init 20 = .ok (.invokespecial 9, 3) := by decide +kernel
theorem dX10_init_23 : decode cX10_init 23 = .ok (.putfield 16, 3) := by decide +kernel
theorem dX10_init_26 : decode cX10_init 26 = .ok (.aload_n 0, 1) := by decide +kernel
theorem dX10_init_27 : decode cX10_init 27 = .ok (.new 19, 3) := by decide +kernel
theorem dX10_init_30 : decode cX10_init 30 = .ok (.dup, 1) := by decide +kernel
theorem dX10_init_31 : decode cX10_init 31 = .ok (.invokespecial 21, 3) := by decide +kernel
theorem dX10_init_34 : decode cX10_init 34 = .ok (.putfield 22, 3) := by decide +kernel
theorem dX10_init_37 : decode cX10_init 37 = .ok (.aload_n 0, 1) := by decide +kernel
theorem dX10_init_38 : decode cX10_init 38 = .ok (.new 26, 3) := by decide +kernel
theorem dX10_init_41 : decode cX10_init 41 = .ok (.dup, 1) := by decide +kernel
theorem dX10_init_42 : decode cX10_init 42 = .ok (.invokespecial 28, 3) := by decide +kernel
theorem dX10_init_45 : decode cX10_init 45 = .ok (.putfield 29, 3) := by decide +kernel
theorem dX10_init_48 : decode cX10_init 48 = .ok (.aload_n 0, 1) := by decide +kernel
theorem dX10_init_49 : decode cX10_init 49 = .ok (.new 33, 3) := by decide +kernel
theorem dX10_init_52 : decode cX10_init 52 = .ok (.dup, 1) := by decide +kernel
theorem dX10_init_53 : decode cX10_init 53 = .ok (.invokespecial 35, 3) := by decide +kernel
theorem dX10_init_56 : decode cX10_init 56 = .ok (.putfield 36, 3) := by decide +kernel
theorem dX10_init_59 : decode cX10_init 59 = .ok (.return_, 1) := by decide +kernel
theorem dX10_addTrader_0 : decode cX10_addTrader 0 = .ok (.aload_n 0, 1) := by decide +kernel
theorem dX10_addTrader_1 : decode cX10_addTrader 1 = .ok (.getfield 10, 3) := by decide +kernel
theorem dX10_addTrader_4 : decode cX10_addTrader 4 = .ok (.iload_n 1, 1) := by decide +kernel
theorem dX10_addTrader_5 : decode cX10_addTrader 5 = .ok (.iload_n 2, 1) := by decide +kernel
theorem dX10_addTrader_6 : decode cX10_addTrader 6 = .ok (.invokevirtual 40, 3) := by decide +kernel
theorem dX10_addTrader_9 : decode cX10_addTrader 9 = .ok (.invokestatic 44, 3) := by decide +kernel
theorem dX10_addTrader_12 : decode cX10_addTrader 12 = .ok (.aload_n 0, 1) := by decide +kernel
theorem dX10_addTrader_13 : decode cX10_addTrader 13 = .ok (.getfield 29, 3) := by decide +kernel
theorem dX10_addTrader_16 : decode cX10_addTrader 16 = .ok (.aload_n 0, 1) := by decide +kernel
theorem dX10_addTrader_17 : decode cX10_addTrader 17 = .ok (.getfield 10, 3) := by decide +kernel
theorem dX10_addTrader_20 : decode cX10_addTrader 20 = .ok (.invokevirtual 48, 3) := by decide +kernel
theorem dX10_addTrader_23 : decode cX10_addTrader 23 = .ok (.aload_n 0, 1) := by decide +kernel
theorem dX10_addTrader_24 : decode cX10_addTrader 24 = .ok (.getfield 10, 3) := by decide +kernel
theorem dX10_addTrader_27 : decode cX10_addTrader 27 = .ok (.getfield 52, 3) := by decide +kernel
theorem dX10_addTrader_30 : decode cX10_addTrader 30 = .ok (.iload_n 1, 1) := by decide +kernel
theorem dX10_addTrader_31 : decode cX10_addTrader 31 = .ok (.iload_n 2, 1) := by decide +kernel
theorem dX10_addTrader_32 : decode cX10_addTrader 32 = .ok (.invokevirtual 56, 3) := by decide +kernel
theorem dX10_addTrader_35 : decode cX10_addTrader 35 = .ok (.ireturn, 1) := by decide +kernel
theorem dX10_setValue_0 : decode cX10_setValue 0 = .ok (.aload_n 0, 1) := by decide +kernel
theorem dX10_setValue_1 : decode cX10_setValue 1 = .ok (.getfield 10, 3) := by decide +kernel
theorem dX10_setValue_4 : decode cX10_setValue 4 = .ok (.iload_n 1, 1) := by decide +kernel
theorem dX10_setValue_5 : decode cX10_setValue 5 = .ok (.iload_n 2, 1) := by decide +kernel
theorem dX10_setValue_6 : decode cX10_setValue 6 = .ok (.invokevirtual 61, 3) := by decide +kernel
theorem dX10_setValue_9 : decode cX10_setValue 9 = .ok (.invokestatic 44, 3) := by decide +kernel
theorem dX10_setValue_12 : decode cX10_setValue 12 = .ok (.aload_n 0, 1) := by decide +kernel
theorem dX10_setValue_13 : decode cX10_setValue 13 = .ok (.getfield 29, 3) := by decide +kernel
theorem dX10_setValue_16 : decode cX10_setValue 16 = .ok (.aload_n 0, 1) := by decide +kernel
theorem dX10_setValue_17 : decode cX10_setValue 17 = .ok (.getfield 10, 3) := by decide +kernel
theorem dX10_setValue_20 : decode cX10_setValue 20 = .ok (.invokevirtual 48, 3) := by decide +kernel
theorem dX10_setValue_23 : decode cX10_setValue 23 = .ok (.aload_n 0, 1) := by decide +kernel
theorem dX10_setValue_24 : decode cX10_setValue 24 = .ok (.getfield 10, 3) := by decide +kernel
theorem dX10_setValue_27 : decode cX10_setValue 27 = .ok (.getfield 52, 3) := by decide +kernel
theorem dX10_setValue_30 : decode cX10_setValue 30 = .ok (.getfield 64, 3) := by decide +kernel
theorem dX10_setValue_33 : decode cX10_setValue 33 = .ok (.iload_n 1, 1) := by decide +kernel
theorem dX10_setValue_34 : decode cX10_setValue 34 = .ok (.invokevirtual 68, 3) := by decide +kernel
theorem dX10_setValue_37 : decode cX10_setValue 37 = .ok (.istore_n 3, 1) := by decide +kernel
theorem dX10_setValue_38 : decode cX10_setValue 38 = .ok (.aload_n 0, 1) := by decide +kernel
theorem dX10_setValue_39 : decode cX10_setValue 39 = .ok (.getfield 10, 3) := by decide +kernel
theorem dX10_setValue_42 : decode cX10_setValue 42 = .ok (.getfield 52, 3) := by decide +kernel
theorem dX10_setValue_45 : decode cX10_setValue 45 = .ok (.getfield 64, 3) := by decide +kernel
theorem dX10_setValue_48 : decode cX10_setValue 48 = .ok (.iload_n 1, 1) := by decide +kernel
theorem dX10_setValue_49 : decode cX10_setValue 49 = .ok (.iload_n 2, 1) := by decide +kernel
theorem dX10_setValue_50 : decode cX10_setValue 50 = .ok (.invokevirtual 74, 3) := by decide +kernel
theorem dX10_setValue_53 : decode cX10_setValue 53 = .ok (.iload_n 3, 1) := by decide +kernel
theorem dX10_setValue_54 : decode cX10_setValue 54 = .ok (.ireturn, 1) := by decide +kernel
theorem dX10_setShade_0 : decode cX10_setShade 0 = .ok (.aload_n 0, 1) := by decide +kernel
theorem dX10_setShade_1 : decode cX10_setShade 1 = .ok (.getfield 10, 3) := by decide +kernel
theorem dX10_setShade_4 : decode cX10_setShade 4 = .ok (.iload_n 1, 1) := by decide +kernel
theorem dX10_setShade_5 : decode cX10_setShade 5 = .ok (.iload_n 2, 1) := by decide +kernel
theorem dX10_setShade_6 : decode cX10_setShade 6 = .ok (.iload_n 3, 1) := by decide +kernel
theorem dX10_setShade_7 : decode cX10_setShade 7 = .ok (.invokevirtual 78, 3) := by decide +kernel
theorem dX10_setShade_10 : decode cX10_setShade 10 = .ok (.invokestatic 44, 3) := by decide +kernel
theorem dX10_setShade_13 : decode cX10_setShade 13 = .ok (.aload_n 0, 1) := by decide +kernel
theorem dX10_setShade_14 : decode cX10_setShade 14 = .ok (.getfield 29, 3) := by decide +kernel
theorem dX10_setShade_17 : decode cX10_setShade 17 = .ok (.aload_n 0, 1) := by decide +kernel
theorem dX10_setShade_18 : decode cX10_setShade 18 = .ok (.getfield 10, 3) := by decide +kernel
theorem dX10_setShade_21 : decode cX10_setShade 21 = .ok (.invokevirtual 48, 3) := by decide +kernel
theorem dX10_setShade_24 : decode cX10_setShade 24 = .ok (.aload_n 0, 1) := by decide +kernel
theorem dX10_setShade_25 : decode cX10_setShade 25 = .ok (.getfield 10, 3) := by decide +kernel
theorem dX10_setShade_28 : decode cX10_setShade 28 = .ok (.getfield 52, 3) := by decide +kernel
theorem dX10_setShade_31 : decode cX10_setShade 31 = .ok (.iload_n 1, 1) := by decide +kernel
theorem dX10_setShade_32 : decode cX10_setShade 32 = .ok (.iload_n 2, 1) := by decide +kernel
theorem dX10_setShade_33 : decode cX10_setShade 33 = .ok (.iload_n 3, 1) := by decide +kernel
theorem dX10_setShade_34 : decode cX10_setShade 34 = .ok (.invokevirtual 82, 3) := by decide +kernel
theorem dX10_setShade_37 : decode cX10_setShade 37 = .ok (.aload_n 0, 1) := by decide +kernel
theorem dX10_setShade_38 : decode cX10_setShade 38 = .ok (.getfield 10, 3) := by decide +kernel
theorem dX10_setShade_41 : decode cX10_setShade 41 = .ok (.getfield 52, 3) := by decide +kernel
theorem dX10_setShade_44 : decode cX10_setShade 44 = .ok (.iload_n 1, 1) := by decide +kernel
theorem dX10_setShade_45 : decode cX10_setShade 45 = .ok (.invokevirtual 86, 3) := by decide +kernel
theorem dX10_setShade_48 : decode cX10_setShade 48 = .ok (.ireturn, 1) := by decide +kernel
theorem dX10_set_0 : decode cX10_set 0 = .ok (.aload_n 0, 1) := by decide +kernel
theorem dX10_set_1 : decode cX10_set 1 = .ok (.getfield 10, 3) := by decide +kernel
theorem dX10_set_4 : decode cX10_set 4 = .ok (.iload_n 1, 1) := by decide +kernel
theorem dX10_set_5 : decode cX10_set 5 = .ok (.iload_n 2, 1) := by decide +kernel
theorem dX10_set_6 : decode cX10_set 6 = .ok (.invokevirtual 89, 3) := by decide +kernel
theorem dX10_set_9 : decode cX10_set 9 = .ok (.invokestatic 44, 3) := by decide +kernel
theorem dX10_set_12 : decode cX10_set 12 = .ok (.aload_n 0, 1) := by decide +kernel
theorem dX10_set_13 : decode cX10_set 13 = .ok (.getfield 29, 3) := by decide +kernel
theorem dX10_set_16 : decode cX10_set 16 = .ok (.aload_n 0, 1) := by decide +kernel
theorem dX10_set_17 : decode cX10_set 17 = .ok (.getfield 10, 3) := by decide +kernel
theorem dX10_set_20 : decode cX10_set 20 = .ok (.invokevirtual 48, 3) := by decide +kernel
theorem dX10_set_23 : decode cX10_set 23 = .ok (.aload_n 0, 1) := by decide +kernel
theorem dX10_set_24 : decode cX10_set 24 = .ok (.getfield 10, 3) := by decide +kernel
theorem dX10_set_27 : decode cX10_set 27 = .ok (.iload_n 1, 1) := by decide +kernel
theorem dX10_set_28 : decode cX10_set 28 = .ok (.iload_n 2, 1) := by decide +kernel
theorem dX10_set_29 : decode cX10_set 29 = .ok (.invokevirtual 92, 3) := by decide +kernel
theorem dX10_set_32 : decode cX10_set 32 = .ok (.ireturn, 1) := by decide +kernel
theorem dX10_bid_0 : decode cX10_bid 0 = .ok (.aload_n 0, 1) := by decide +kernel
theorem dX10_bid_1 : decode cX10_bid 1 = .ok (.getfield 10, 3) := by decide +kernel
theorem dX10_bid_4 : decode cX10_bid 4 = .ok (.iload_n 1, 1) := by decide +kernel
theorem dX10_bid_5 : decode cX10_bid 5 = .ok (.iload_n 2, 1) := by decide +kernel
theorem dX10_bid_6 : decode cX10_bid 6 = .ok (.invokevirtual 95, 3) := by decide +kernel
theorem dX10_bid_9 : decode cX10_bid 9 = .ok (.invokestatic 44, 3) := by decide +kernel
theorem dX10_bid_12 : decode cX10_bid 12 = .ok (.aload_n 0, 1) := by decide +kernel
theorem dX10_bid_13 : decode cX10_bid 13 = .ok (.getfield 29, 3) := by decide +kernel
theorem dX10_bid_16 : decode cX10_bid 16 = .ok (.aload_n 0, 1) := by decide +kernel
theorem dX10_bid_17 : decode cX10_bid 17 = .ok (.getfield 10, 3) := by decide +kernel
theorem dX10_bid_20 : decode cX10_bid 20 = .ok (.invokevirtual 48, 3) := by decide +kernel
theorem dX10_bid_23 : decode cX10_bid 23 = .ok (.aload_n 0, 1) := by decide +kernel
theorem dX10_bid_24 : decode cX10_bid 24 = .ok (.getfield 10, 3) := by decide +kernel
theorem dX10_bid_27 : decode cX10_bid 27 = .ok (.iload_n 1, 1) := by decide +kernel
theorem dX10_bid_28 : decode cX10_bid 28 = .ok (.aload_n 0, 1) := by decide +kernel
theorem dX10_bid_29 : decode cX10_bid 29 = .ok (.getfield 10, 3) := by decide +kernel
theorem dX10_bid_32 : decode cX10_bid 32 = .ok (.getfield 52, 3) := by decide +kernel
theorem dX10_bid_35 : decode cX10_bid 35 = .ok (.iload_n 1, 1) := by decide +kernel
theorem dX10_bid_36 : decode cX10_bid 36 = .ok (.invokevirtual 86, 3) := by decide +kernel
theorem dX10_bid_39 : decode cX10_bid 39 = .ok (.iload_n 2, 1) := by decide +kernel
theorem dX10_bid_40 : decode cX10_bid 40 = .ok (.invokevirtual 98, 3) := by decide +kernel
theorem dX10_bid_43 : decode cX10_bid 43 = .ok (.ireturn, 1) := by decide +kernel
theorem dX10_order_0 : decode cX10_order 0 = .ok (.aload_n 0, 1) := by decide +kernel
theorem dX10_order_1 : decode cX10_order 1 = .ok (.getfield 10, 3) := by decide +kernel
theorem dX10_order_4 : decode cX10_order 4 = .ok (.iload_n 1, 1) := by decide +kernel
theorem dX10_order_5 : decode cX10_order 5 = .ok (.iload_n 2, 1) := by decide +kernel
theorem dX10_order_6 : decode cX10_order 6 = .ok (.iload_n 3, 1) := by decide +kernel
theorem dX10_order_7 : decode cX10_order 7 = .ok (.invokevirtual 101, 3) := by decide +kernel
theorem dX10_order_10 : decode cX10_order 10 = .ok (.invokestatic 44, 3) := by decide +kernel
theorem dX10_order_13 : decode cX10_order 13 = .ok (.aload_n 0, 1) := by decide +kernel
theorem dX10_order_14 : decode cX10_order 14 = .ok (.getfield 29, 3) := by decide +kernel
theorem dX10_order_17 : decode cX10_order 17 = .ok (.aload_n 0, 1) := by decide +kernel
theorem dX10_order_18 : decode cX10_order 18 = .ok (.getfield 10, 3) := by decide +kernel
theorem dX10_order_21 : decode cX10_order 21 = .ok (.invokevirtual 48, 3) := by decide +kernel
theorem dX10_order_24 : decode cX10_order 24 = .ok (.aload_n 0, 1) := by decide +kernel
theorem dX10_order_25 : decode cX10_order 25 = .ok (.getfield 10, 3) := by decide +kernel
theorem dX10_order_28 : decode cX10_order 28 = .ok (.iload_n 1, 1) := by decide +kernel
theorem dX10_order_29 : decode cX10_order 29 = .ok (.iload_n 2, 1) := by decide +kernel
theorem dX10_order_30 : decode cX10_order 30 = .ok (.iload_n 3, 1) := by decide +kernel
theorem dX10_order_31 : decode cX10_order 31 = .ok (.invokevirtual 98, 3) := by decide +kernel
theorem dX10_order_34 : decode cX10_order 34 = .ok (.ireturn, 1) := by decide +kernel
theorem dX10_cancel_0 : decode cX10_cancel 0 = .ok (.aload_n 0, 1) := by decide +kernel
theorem dX10_cancel_1 : decode cX10_cancel 1 = .ok (.getfield 10, 3) := by decide +kernel
theorem dX10_cancel_4 : decode cX10_cancel 4 = .ok (.getfield 104, 3) := by decide +kernel
theorem dX10_cancel_7 : decode cX10_cancel 7 = .ok (.iload_n 1, 1) := by decide +kernel
theorem dX10_cancel_8 : decode cX10_cancel 8 = .ok (.invokevirtual 108, 3) := by decide +kernel
theorem dX10_cancel_11 : decode cX10_cancel 11 = .ok (.invokestatic 44, 3) := by decide +kernel
theorem dX10_cancel_14 : decode cX10_cancel 14 = .ok (.aload_n 0, 1) := by decide +kernel
theorem dX10_cancel_15 : decode cX10_cancel 15 = .ok (.getfield 29, 3) := by decide +kernel
theorem dX10_cancel_18 : decode cX10_cancel 18 = .ok (.aload_n 0, 1) := by decide +kernel
theorem dX10_cancel_19 : decode cX10_cancel 19 = .ok (.getfield 10, 3) := by decide +kernel
theorem dX10_cancel_22 : decode cX10_cancel 22 = .ok (.invokevirtual 48, 3) := by decide +kernel
theorem dX10_cancel_25 : decode cX10_cancel 25 = .ok (.aload_n 0, 1) := by decide +kernel
theorem dX10_cancel_26 : decode cX10_cancel 26 = .ok (.getfield 10, 3) := by decide +kernel
theorem dX10_cancel_29 : decode cX10_cancel 29 = .ok (.getfield 104, 3) := by decide +kernel
theorem dX10_cancel_32 : decode cX10_cancel 32 = .ok (.iload_n 1, 1) := by decide +kernel
theorem dX10_cancel_33 : decode cX10_cancel 33 = .ok (.invokevirtual 113, 3) := by decide +kernel
theorem dX10_cancel_36 : decode cX10_cancel 36 = .ok (.ireturn, 1) := by decide +kernel
theorem dX10_clear_0 : decode cX10_clear 0 = .ok (.aload_n 0, 1) := by decide +kernel
theorem dX10_clear_1 : decode cX10_clear 1 = .ok (.getfield 10, 3) := by decide +kernel
theorem dX10_clear_4 : decode cX10_clear 4 = .ok (.invokevirtual 116, 3) := by decide +kernel
theorem dX10_clear_7 : decode cX10_clear 7 = .ok (.invokestatic 44, 3) := by decide +kernel
theorem dX10_clear_10 : decode cX10_clear 10 = .ok (.aload_n 0, 1) := by decide +kernel
theorem dX10_clear_11 : decode cX10_clear 11 = .ok (.getfield 29, 3) := by decide +kernel
theorem dX10_clear_14 : decode cX10_clear 14 = .ok (.aload_n 0, 1) := by decide +kernel
theorem dX10_clear_15 : decode cX10_clear 15 = .ok (.getfield 10, 3) := by decide +kernel
theorem dX10_clear_18 : decode cX10_clear 18 = .ok (.invokevirtual 48, 3) := by decide +kernel
theorem dX10_clear_21 : decode cX10_clear 21 = .ok (.aload_n 0, 1) := by decide +kernel
theorem dX10_clear_22 : decode cX10_clear 22 = .ok (.getfield 10, 3) := by decide +kernel
theorem dX10_clear_25 : decode cX10_clear 25 = .ok (.aload_n 0, 1) := by decide +kernel
theorem dX10_clear_26 : decode cX10_clear 26 = .ok (.getfield 22, 3) := by decide +kernel
theorem dX10_clear_29 : decode cX10_clear 29 = .ok (.invokevirtual 120, 3) := by decide +kernel
theorem dX10_clear_32 : decode cX10_clear 32 = .ok (.ireturn, 1) := by decide +kernel
theorem dX10_trader_0 : decode cX10_trader 0 = .ok (.aload_n 0, 1) := by decide +kernel
theorem dX10_trader_1 : decode cX10_trader 1 = .ok (.getfield 10, 3) := by decide +kernel
theorem dX10_trader_4 : decode cX10_trader 4 = .ok (.getfield 52, 3) := by decide +kernel
theorem dX10_trader_7 : decode cX10_trader 7 = .ok (.iload_n 1, 1) := by decide +kernel
theorem dX10_trader_8 : decode cX10_trader 8 = .ok (.invokevirtual 124, 3) := by decide +kernel
theorem dX10_trader_11 : decode cX10_trader 11 = .ok (.invokestatic 44, 3) := by decide +kernel
theorem dX10_trader_14 : decode cX10_trader 14 = .ok (.iload_n 2, 1) := by decide +kernel
theorem dX10_trader_15 : decode cX10_trader 15 = .ok (.bipush 10, 2) := by decide +kernel
theorem dX10_trader_17 : decode cX10_trader 17 = .ok (.invokestatic 125, 3) := by decide +kernel
theorem dX10_trader_20 : decode cX10_trader 20 = .ok (.invokestatic 44, 3) := by decide +kernel
theorem dX10_trader_23 : decode cX10_trader 23 = .ok (.aload_n 0, 1) := by decide +kernel
theorem dX10_trader_24 : decode cX10_trader 24 = .ok (.getfield 10, 3) := by decide +kernel
theorem dX10_trader_27 : decode cX10_trader 27 = .ok (.iload_n 1, 1) := by decide +kernel
theorem dX10_trader_28 : decode cX10_trader 28 = .ok (.iload_n 2, 1) := by decide +kernel
theorem dX10_trader_29 : decode cX10_trader 29 = .ok (.invokevirtual 128, 3) := by decide +kernel
theorem dX10_trader_32 : decode cX10_trader 32 = .ok (.ireturn, 1) := by decide +kernel
theorem dX10_orderOf_0 : decode cX10_orderOf 0 = .ok (.aload_n 0, 1) := by decide +kernel
theorem dX10_orderOf_1 : decode cX10_orderOf 1 = .ok (.getfield 10, 3) := by decide +kernel
theorem dX10_orderOf_4 : decode cX10_orderOf 4 = .ok (.getfield 104, 3) := by decide +kernel
theorem dX10_orderOf_7 : decode cX10_orderOf 7 = .ok (.iload_n 1, 1) := by decide +kernel
theorem dX10_orderOf_8 : decode cX10_orderOf 8 = .ok (.invokevirtual 108, 3) := by decide +kernel
theorem dX10_orderOf_11 : decode cX10_orderOf 11 = .ok (.invokestatic 44, 3) := by decide +kernel
theorem dX10_orderOf_14 : decode cX10_orderOf 14 = .ok (.iload_n 2, 1) := by decide +kernel
theorem dX10_orderOf_15 : decode cX10_orderOf 15 = .ok (.iconst 5, 1) := by decide +kernel
theorem dX10_orderOf_16 : decode cX10_orderOf 16 = .ok (.invokestatic 125, 3) := by decide +kernel
theorem dX10_orderOf_19 : decode cX10_orderOf 19 = .ok (.invokestatic 44, 3) := by decide +kernel
theorem dX10_orderOf_22 : decode cX10_orderOf 22 = .ok (.aload_n 0, 1) := by decide +kernel
theorem dX10_orderOf_23 : decode cX10_orderOf 23 = .ok (.getfield 10, 3) := by decide +kernel
theorem dX10_orderOf_26 : decode cX10_orderOf 26 = .ok (.getfield 104, 3) := by decide +kernel
theorem dX10_orderOf_29 : decode cX10_orderOf 29 = .ok (.aload_n 0, 1) := by decide +kernel
theorem dX10_orderOf_30 : decode cX10_orderOf 30 = .ok (.getfield 10, 3) := by decide +kernel
theorem dX10_orderOf_33 : decode cX10_orderOf 33 = .ok (.getfield 104, 3) := by decide +kernel
theorem dX10_orderOf_36 : decode cX10_orderOf 36 = .ok (.iload_n 1, 1) := by decide +kernel
theorem dX10_orderOf_37 : decode cX10_orderOf 37 = .ok (.invokevirtual 131, 3) := by decide +kernel
theorem dX10_orderOf_40 : decode cX10_orderOf 40 = .ok (.iload_n 2, 1) := by decide +kernel
theorem dX10_orderOf_41 : decode cX10_orderOf 41 = .ok (.invokevirtual 134, 3) := by decide +kernel
theorem dX10_orderOf_44 : decode cX10_orderOf 44 = .ok (.ireturn, 1) := by decide +kernel
theorem dX10_trade_0 : decode cX10_trade 0 = .ok (.iload_n 1, 1) := by decide +kernel
theorem dX10_trade_1 : decode cX10_trade 1 = .ok (.ifCond .ge 7, 3) := by decide +kernel
theorem dX10_trade_4 : decode cX10_trade 4 = .ok (.iconst 2, 1) := by decide +kernel
theorem dX10_trade_5 : decode cX10_trade 5 = .ok (.goto 8, 3) := by decide +kernel
theorem dX10_trade_8 : decode cX10_trade 8 = .ok (.iload_n 2, 1) := by decide +kernel
theorem dX10_trade_9 : decode cX10_trade 9 = .ok (.iconst 5, 1) := by decide +kernel
theorem dX10_trade_10 : decode cX10_trade 10 = .ok (.invokestatic 125, 3) := by decide +kernel
theorem dX10_trade_13 : decode cX10_trade 13 = .ok (.invokestatic 44, 3) := by decide +kernel
theorem dX10_trade_16 : decode cX10_trade 16 = .ok (.aload_n 0, 1) := by decide +kernel
theorem dX10_trade_17 : decode cX10_trade 17 = .ok (.getfield 10, 3) := by decide +kernel
theorem dX10_trade_20 : decode cX10_trade 20 = .ok (.getfield 137, 3) := by decide +kernel
theorem dX10_trade_23 : decode cX10_trade 23 = .ok (.iload_n 1, 1) := by decide +kernel
theorem dX10_trade_24 : decode cX10_trade 24 = .ok (.iload_n 2, 1) := by decide +kernel
theorem dX10_trade_25 : decode cX10_trade 25 = .ok (.invokevirtual 141, 3) := by decide +kernel
theorem dX10_trade_28 : decode cX10_trade 28 = .ok (.ireturn, 1) := by decide +kernel
theorem dX10_now_0 : decode cX10_now 0 = .ok (.iload_n 1, 1) := by decide +kernel
theorem dX10_now_1 : decode cX10_now 1 = .ok (.bipush 7, 2) := by decide +kernel
theorem dX10_now_3 : decode cX10_now 3 = .ok (.invokestatic 125, 3) := by decide +kernel
theorem dX10_now_6 : decode cX10_now 6 = .ok (.invokestatic 44, 3) := by decide +kernel
theorem dX10_now_9 : decode cX10_now 9 = .ok (.aload_n 0, 1) := by decide +kernel
theorem dX10_now_10 : decode cX10_now 10 = .ok (.getfield 22, 3) := by decide +kernel
theorem dX10_now_13 : decode cX10_now 13 = .ok (.aload_n 0, 1) := by decide +kernel
theorem dX10_now_14 : decode cX10_now 14 = .ok (.getfield 10, 3) := by decide +kernel
theorem dX10_now_17 : decode cX10_now 17 = .ok (.invokevirtual 150, 3) := by decide +kernel
theorem dX10_now_20 : decode cX10_now 20 = .ok (.aload_n 0, 1) := by decide +kernel
theorem dX10_now_21 : decode cX10_now 21 = .ok (.getfield 22, 3) := by decide +kernel
theorem dX10_now_24 : decode cX10_now 24 = .ok (.aload_n 0, 1) := by decide +kernel
theorem dX10_now_25 : decode cX10_now 25 = .ok (.getfield 10, 3) := by decide +kernel
theorem dX10_now_28 : decode cX10_now 28 = .ok (.iload_n 1, 1) := by decide +kernel
theorem dX10_now_29 : decode cX10_now 29 = .ok (.invokevirtual 153, 3) := by decide +kernel
theorem dX10_now_32 : decode cX10_now 32 = .ok (.ireturn, 1) := by decide +kernel
theorem dX10_whole_0 : decode cX10_whole 0 = .ok (.iload_n 1, 1) := by decide +kernel
theorem dX10_whole_1 : decode cX10_whole 1 = .ok (.bipush 12, 2) := by decide +kernel
theorem dX10_whole_3 : decode cX10_whole 3 = .ok (.invokestatic 125, 3) := by decide +kernel
theorem dX10_whole_6 : decode cX10_whole 6 = .ok (.invokestatic 44, 3) := by decide +kernel
theorem dX10_whole_9 : decode cX10_whole 9 = .ok (.aload_n 0, 1) := by decide +kernel
theorem dX10_whole_10 : decode cX10_whole 10 = .ok (.iload_n 1, 1) := by decide +kernel
theorem dX10_whole_11 : decode cX10_whole 11 = .ok (.invokevirtual 156, 3) := by decide +kernel
theorem dX10_whole_14 : decode cX10_whole 14 = .ok (.ireturn, 1) := by decide +kernel
theorem dX10_reason_0 : decode cX10_reason 0 = .ok (.aload_n 0, 1) := by decide +kernel
theorem dX10_reason_1 : decode cX10_reason 1 = .ok (.getfield 10, 3) := by decide +kernel
theorem dX10_reason_4 : decode cX10_reason 4 = .ok (.getfield 104, 3) := by decide +kernel
theorem dX10_reason_7 : decode cX10_reason 7 = .ok (.iload_n 1, 1) := by decide +kernel
theorem dX10_reason_8 : decode cX10_reason 8 = .ok (.invokevirtual 108, 3) := by decide +kernel
theorem dX10_reason_11 : decode cX10_reason 11 = .ok (.invokestatic 44, 3) := by decide +kernel
theorem dX10_reason_14 : decode cX10_reason 14 = .ok (.aload_n 0, 1) := by decide +kernel
theorem dX10_reason_15 : decode cX10_reason 15 = .ok (.getfield 22, 3) := by decide +kernel
theorem dX10_reason_18 : decode cX10_reason 18 = .ok (.aload_n 0, 1) := by decide +kernel
theorem dX10_reason_19 : decode cX10_reason 19 = .ok (.getfield 10, 3) := by decide +kernel
theorem dX10_reason_22 : decode cX10_reason 22 = .ok (.invokevirtual 150, 3) := by decide +kernel
theorem dX10_reason_25 : decode cX10_reason 25 = .ok (.aload_n 0, 1) := by decide +kernel
theorem dX10_reason_26 : decode cX10_reason 26 = .ok (.getfield 22, 3) := by decide +kernel
theorem dX10_reason_29 : decode cX10_reason 29 = .ok (.aload_n 0, 1) := by decide +kernel
theorem dX10_reason_30 : decode cX10_reason 30 = .ok (.getfield 10, 3) := by decide +kernel
theorem dX10_reason_33 : decode cX10_reason 33 = .ok (.getfield 104, 3) := by decide +kernel
theorem dX10_reason_36 : decode cX10_reason 36 = .ok (.aload_n 0, 1) := by decide +kernel
theorem dX10_reason_37 : decode cX10_reason 37 = .ok (.getfield 10, 3) := by decide +kernel
theorem dX10_reason_40 : decode cX10_reason 40 = .ok (.getfield 104, 3) := by decide +kernel
theorem dX10_reason_43 : decode cX10_reason 43 = .ok (.iload_n 1, 1) := by decide +kernel
theorem dX10_reason_44 : decode cX10_reason 44 = .ok (.invokevirtual 131, 3) := by decide +kernel
theorem dX10_reason_47 : decode cX10_reason 47 = .ok (.invokevirtual 162, 3) := by decide +kernel
theorem dX10_reason_50 : decode cX10_reason 50 = .ok (.ireturn, 1) := by decide +kernel
theorem dX10_gainWith_0 : decode cX10_gainWith 0 = .ok (.aload_n 0, 1) := by decide +kernel
theorem dX10_gainWith_1 : decode cX10_gainWith 1 = .ok (.getfield 10, 3) := by decide +kernel
theorem dX10_gainWith_4 : decode cX10_gainWith 4 = .ok (.getfield 52, 3) := by decide +kernel
theorem dX10_gainWith_7 : decode cX10_gainWith 7 = .ok (.iload_n 1, 1) := by decide +kernel
theorem dX10_gainWith_8 : decode cX10_gainWith 8 = .ok (.invokevirtual 124, 3) := by decide +kernel
theorem dX10_gainWith_11 : decode cX10_gainWith 11 = .ok (.invokestatic 44, 3) := by decide +kernel
theorem dX10_gainWith_14 : decode cX10_gainWith 14 = .ok (.iload_n 2, 1) := by decide +kernel
theorem dX10_gainWith_15 : decode cX10_gainWith 15 = .ok (.invokestatic 144, 3) := by decide +kernel
theorem dX10_gainWith_18 : decode cX10_gainWith 18 = .ok (.invokestatic 44, 3) := by decide +kernel
theorem dX10_gainWith_21 : decode cX10_gainWith 21 = .ok (.aload_n 0, 1) := by decide +kernel
theorem dX10_gainWith_22 : decode cX10_gainWith 22 = .ok (.getfield 10, 3) := by decide +kernel
theorem dX10_gainWith_25 : decode cX10_gainWith 25 = .ok (.getfield 104, 3) := by decide +kernel
theorem dX10_gainWith_28 : decode cX10_gainWith 28 = .ok (.invokevirtual 166, 3) := by decide +kernel
theorem dX10_gainWith_31 : decode cX10_gainWith 31 = .ok (.ifCond .eq 7, 3) := by decide +kernel
theorem dX10_gainWith_34 : decode cX10_gainWith 34 = .ok (.sipush (-10000), 3) := by decide +kernel
theorem dX10_gainWith_37 : decode cX10_gainWith 37 = .ok (.ireturn, 1) := by decide +kernel
theorem dX10_gainWith_38 : decode cX10_gainWith 38 = .ok (.aload_n 0, 1) := by decide +kernel
theorem dX10_gainWith_39 : decode cX10_gainWith 39 = .ok (.getfield 16, 3) := by decide +kernel
theorem dX10_gainWith_42 : decode cX10_gainWith 42 = .ok (.aload_n 0, 1) := by decide +kernel
theorem dX10_gainWith_43 : decode cX10_gainWith 43 = .ok (.getfield 10, 3) := by decide +kernel
theorem dX10_gainWith_46 : decode cX10_gainWith 46 = .ok (.invokevirtual 170, 3) := by decide +kernel
theorem dX10_gainWith_49 : decode cX10_gainWith 49 = .ok (.aload_n 0, 1) := by decide +kernel
theorem dX10_gainWith_50 : decode cX10_gainWith 50 = .ok (.getfield 16, 3) := by decide +kernel
theorem dX10_gainWith_53 : decode cX10_gainWith 53 = .ok (.iload_n 1, 1) := by decide +kernel
theorem dX10_gainWith_54 : decode cX10_gainWith 54 = .ok (.iload_n 2, 1) := by decide +kernel
theorem dX10_gainWith_55 : decode cX10_gainWith 55 = .ok (.iconst 1, 1) := by decide +kernel
theorem dX10_gainWith_56 : decode cX10_gainWith 56 = .ok (.invokevirtual 98, 3) := by decide +kernel
theorem dX10_gainWith_59 : decode cX10_gainWith 59 = .ok (.pop, 1) := by decide +kernel
theorem dX10_gainWith_60 : decode cX10_gainWith 60 = .ok (.aload_n 0, 1) := by decide +kernel
theorem dX10_gainWith_61 : decode cX10_gainWith 61 = .ok (.getfield 22, 3) := by decide +kernel
theorem dX10_gainWith_64 : decode cX10_gainWith 64 = .ok (.aload_n 0, 1) := by decide +kernel
theorem dX10_gainWith_65 : decode cX10_gainWith 65 = .ok (.getfield 16, 3) := by decide +kernel
theorem dX10_gainWith_68 : decode cX10_gainWith 68 = .ok (.invokevirtual 150, 3) := by decide +kernel
theorem dX10_gainWith_71 : decode cX10_gainWith 71 = .ok (.aload_n 0, 1) := by decide +kernel
theorem dX10_gainWith_72 : decode cX10_gainWith 72 = .ok (.getfield 22, 3) := by decide +kernel
theorem dX10_gainWith_75 : decode cX10_gainWith 75 = .ok (.aload_n 0, 1) := by decide +kernel
theorem dX10_gainWith_76 : decode cX10_gainWith 76 = .ok (.getfield 16, 3) := by decide +kernel
theorem dX10_gainWith_79 : decode cX10_gainWith 79 = .ok (.iload_n 1, 1) := by decide +kernel
theorem dX10_gainWith_80 : decode cX10_gainWith 80 = .ok (.aload_n 0, 1) := by decide +kernel
theorem dX10_gainWith_81 : decode cX10_gainWith 81 = .ok (.getfield 22, 3) := by decide +kernel
theorem dX10_gainWith_84 : decode cX10_gainWith 84 = .ok (.getfield 173, 3) := by decide +kernel
theorem dX10_gainWith_87 : decode cX10_gainWith 87 = .ok (.invokevirtual 177, 3) := by decide +kernel
theorem dX10_gainWith_90 : decode cX10_gainWith 90 = .ok (.ireturn, 1) := by decide +kernel
theorem dX10_bestSplit_0 : decode cX10_bestSplit 0 = .ok (.aload_n 0, 1) := by decide +kernel
theorem dX10_bestSplit_1 : decode cX10_bestSplit 1 = .ok (.getfield 10, 3) := by decide +kernel
theorem dX10_bestSplit_4 : decode cX10_bestSplit 4 = .ok (.getfield 52, 3) := by decide +kernel
theorem dX10_bestSplit_7 : decode cX10_bestSplit 7 = .ok (.iload_n 1, 1) := by decide +kernel
theorem dX10_bestSplit_8 : decode cX10_bestSplit 8 = .ok (.invokevirtual 124, 3) := by decide +kernel
theorem dX10_bestSplit_11 : decode cX10_bestSplit 11 = .ok (.invokestatic 44, 3) := by decide +kernel
theorem dX10_bestSplit_14 : decode cX10_bestSplit 14 = .ok (.aload_n 0, 1) := by decide +kernel
theorem dX10_bestSplit_15 : decode cX10_bestSplit 15 = .ok (.getfield 22, 3) := by decide +kernel
theorem dX10_bestSplit_18 : decode cX10_bestSplit 18 = .ok (.aload_n 0, 1) := by decide +kernel
theorem dX10_bestSplit_19 : decode cX10_bestSplit 19 = .ok (.getfield 10, 3) := by decide +kernel
theorem dX10_bestSplit_22 : decode cX10_bestSplit 22 = .ok (.invokevirtual 150, 3) := by decide +kernel
theorem dX10_bestSplit_25 : decode cX10_bestSplit 25 = .ok (.aload_n 0, 1) := by decide +kernel
theorem dX10_bestSplit_26 : decode cX10_bestSplit 26 = .ok (.getfield 22, 3) := by decide +kernel
theorem dX10_bestSplit_29 : decode cX10_bestSplit 29 = .ok (.getfield 184, 3) := by decide +kernel
theorem dX10_bestSplit_32 : decode cX10_bestSplit 32 = .ok (.ifCond .ne 7, 3) := by decide +kernel
theorem dX10_bestSplit_35 : decode cX10_bestSplit 35 = .ok (.sipush (-10000), 3) := by decide +kernel
theorem dX10_bestSplit_38 : decode cX10_bestSplit 38 = .ok (.ireturn, 1) := by decide +kernel
theorem dX10_bestSplit_39 : decode cX10_bestSplit 39 = .ok (.iconst 0, 1) := by decide +kernel
theorem dX10_bestSplit_40 : decode cX10_bestSplit 40 = .ok (.istore_n 2, 1) := by decide +kernel
theorem dX10_bestSplit_41 : decode cX10_bestSplit 41 = .ok (.aload_n 0, 1) := by decide +kernel
theorem dX10_bestSplit_42 : decode cX10_bestSplit 42 = .ok (.getfield 22, 3) := by decide +kernel
theorem dX10_bestSplit_45 : decode cX10_bestSplit 45 = .ok (.aload_n 0, 1) := by decide +kernel
theorem dX10_bestSplit_46 : decode cX10_bestSplit 46 = .ok (.getfield 10, 3) := by decide +kernel
theorem dX10_bestSplit_49 : decode cX10_bestSplit 49 = .ok (.iload_n 1, 1) := by decide +kernel
theorem dX10_bestSplit_50 : decode cX10_bestSplit 50 = .ok (.aload_n 0, 1) := by decide +kernel
theorem dX10_bestSplit_51 : decode cX10_bestSplit 51 = .ok (.getfield 22, 3) := by decide +kernel
theorem dX10_bestSplit_54 : decode cX10_bestSplit 54 = .ok (.iconst 0, 1) := by decide +kernel
theorem dX10_bestSplit_55 : decode cX10_bestSplit 55 = .ok (.invokevirtual 187, 3) := by decide +kernel
theorem dX10_bestSplit_58 : decode cX10_bestSplit 58 = .ok (.invokevirtual 177, 3) := by decide +kernel
theorem dX10_bestSplit_61 : decode cX10_bestSplit 61 = .ok (.istore_n 3, 1) := by decide +kernel
theorem dX10_bestSplit_62 : decode cX10_bestSplit 62 = .ok (.iconst 1, 1) := by decide +kernel
theorem dX10_bestSplit_63 : decode cX10_bestSplit 63 = .ok (.istore 4, 2) := by decide +kernel
theorem dX10_bestSplit_65 : decode cX10_bestSplit 65 = .ok (.iload 4, 2) := by decide +kernel
theorem dX10_bestSplit_67 : decode cX10_bestSplit 67 = .ok (.bipush 10, 2) := by decide +kernel
theorem dX10_bestSplit_69 : decode cX10_bestSplit 69 = .ok (.if_icmp .gt 44, 3) := by decide +kernel
theorem dX10_bestSplit_72 : decode cX10_bestSplit 72 = .ok (.aload_n 0, 1) := by decide +kernel
theorem dX10_bestSplit_73 : decode cX10_bestSplit 73 = .ok (.getfield 22, 3) := by decide +kernel
theorem dX10_bestSplit_76 : decode cX10_bestSplit 76 = .ok (.aload_n 0, 1) := by decide +kernel
theorem dX10_bestSplit_77 : decode cX10_bestSplit 77 = .ok (.getfield 10, 3) := by decide +kernel
theorem dX10_bestSplit_80 : decode cX10_bestSplit 80 = .ok (.iload_n 1, 1) := by decide +kernel
theorem dX10_bestSplit_81 : decode cX10_bestSplit 81 = .ok (.aload_n 0, 1) := by decide +kernel
theorem dX10_bestSplit_82 : decode cX10_bestSplit 82 = .ok (.getfield 22, 3) := by decide +kernel
theorem dX10_bestSplit_85 : decode cX10_bestSplit 85 = .ok (.iload 4, 2) := by decide +kernel
theorem dX10_bestSplit_87 : decode cX10_bestSplit 87 = .ok (.invokevirtual 187, 3) := by decide +kernel
theorem dX10_bestSplit_90 : decode cX10_bestSplit 90 = .ok (.invokevirtual 177, 3) := by decide +kernel
theorem dX10_bestSplit_93 : decode cX10_bestSplit 93 = .ok (.istore 5, 2) := by decide +kernel
theorem dX10_bestSplit_95 : decode cX10_bestSplit 95 = .ok (.iload 5, 2) := by decide +kernel
theorem dX10_bestSplit_97 : decode cX10_bestSplit 97 = .ok (.iload_n 3, 1) := by decide +kernel
theorem dX10_bestSplit_98 : decode cX10_bestSplit 98 = .ok (.if_icmp .le 9, 3) := by decide +kernel
theorem dX10_bestSplit_101 : decode cX10_bestSplit 101 = .ok (.iload 5, 2) := by decide +kernel
theorem dX10_bestSplit_103 : decode cX10_bestSplit 103 = .ok (.istore_n 3, 1) := by decide +kernel
theorem dX10_bestSplit_104 : decode cX10_bestSplit 104 = .ok (.iload 4, 2) := by decide +kernel
theorem dX10_bestSplit_106 : decode cX10_bestSplit 106 = .ok (.istore_n 2, 1) := by decide +kernel
theorem dX10_bestSplit_107 : decode cX10_bestSplit 107 = .ok (.iinc 4 1, 3) := by decide +kernel
theorem dX10_bestSplit_110 : decode cX10_bestSplit 110 = .ok (.goto (-45), 3) := by decide +kernel
theorem dX10_bestSplit_113 : decode cX10_bestSplit 113 = .ok (.iload_n 2, 1) := by decide +kernel
theorem dX10_bestSplit_114 : decode cX10_bestSplit 114 = .ok (.ireturn, 1) := by decide +kernel
theorem dX10_goneIn_0 : decode cX10_goneIn 0 = .ok (.aload_n 0, 1) := by decide +kernel
theorem dX10_goneIn_1 : decode cX10_goneIn 1 = .ok (.getfield 10, 3) := by decide +kernel
theorem dX10_goneIn_4 : decode cX10_goneIn 4 = .ok (.getfield 104, 3) := by decide +kernel
theorem dX10_goneIn_7 : decode cX10_goneIn 7 = .ok (.iload_n 1, 1) := by decide +kernel
theorem dX10_goneIn_8 : decode cX10_goneIn 8 = .ok (.invokevirtual 108, 3) := by decide +kernel
theorem dX10_goneIn_11 : decode cX10_goneIn 11 = .ok (.invokestatic 44, 3) := by decide +kernel
theorem dX10_goneIn_14 : decode cX10_goneIn 14 = .ok (.aload_n 0, 1) := by decide +kernel
theorem dX10_goneIn_15 : decode cX10_goneIn 15 = .ok (.getfield 16, 3) := by decide +kernel
theorem dX10_goneIn_18 : decode cX10_goneIn 18 = .ok (.aload_n 0, 1) := by decide +kernel
theorem dX10_goneIn_19 : decode cX10_goneIn 19 = .ok (.getfield 10, 3) := by decide +kernel
theorem dX10_goneIn_22 : decode cX10_goneIn 22 = .ok (.invokevirtual 170, 3) := by decide +kernel
theorem dX10_goneIn_25 : decode cX10_goneIn 25 = .ok (.iconst 1, 1) := by decide +kernel
theorem dX10_goneIn_26 : decode cX10_goneIn 26 = .ok (.istore_n 2, 1) := by decide +kernel
theorem dX10_goneIn_27 : decode cX10_goneIn 27 = .ok (.iload_n 2, 1) := by decide +kernel
theorem dX10_goneIn_28 : decode cX10_goneIn 28 = .ok (.bipush 9, 2) := by decide +kernel
theorem dX10_goneIn_30 : decode cX10_goneIn 30 = .ok (.if_icmp .ge 37, 3) := by decide +kernel
theorem dX10_goneIn_33 : decode cX10_goneIn 33 = .ok (.aload_n 0, 1) := by decide +kernel
theorem dX10_goneIn_34 : decode cX10_goneIn 34 = .ok (.getfield 16, 3) := by decide +kernel
theorem dX10_goneIn_37 : decode cX10_goneIn 37 = .ok (.aload_n 0, 1) := by decide +kernel
theorem dX10_goneIn_38 : decode cX10_goneIn 38 = .ok (.getfield 22, 3) := by decide +kernel
theorem dX10_goneIn_41 : decode cX10_goneIn 41 = .ok (.invokevirtual 120, 3) := by decide +kernel
theorem dX10_goneIn_44 : decode cX10_goneIn 44 = .ok (.pop, 1) := by decide +kernel
theorem dX10_goneIn_45 : decode cX10_goneIn 45 = .ok (.aload_n 0, 1) := by decide +kernel
theorem dX10_goneIn_46 : decode cX10_goneIn 46 = .ok (.getfield 16, 3) := by decide +kernel
theorem dX10_goneIn_49 : decode cX10_goneIn 49 = .ok (.getfield 104, 3) := by decide +kernel
theorem dX10_goneIn_52 : decode cX10_goneIn 52 = .ok (.iload_n 1, 1) := by decide +kernel
theorem dX10_goneIn_53 : decode cX10_goneIn 53 = .ok (.invokevirtual 131, 3) := by decide +kernel
theorem dX10_goneIn_56 : decode cX10_goneIn 56 = .ok (.ifCond .ge 5, 3) := by decide +kernel
theorem dX10_goneIn_59 : decode cX10_goneIn 59 = .ok (.iload_n 2, 1) := by decide +kernel
theorem dX10_goneIn_60 : decode cX10_goneIn 60 = .ok (.ireturn, 1) := by decide +kernel
theorem dX10_goneIn_61 : decode cX10_goneIn 61 = .ok (.iinc 2 1, 3) := by decide +kernel
theorem dX10_goneIn_64 : decode cX10_goneIn 64 = .ok (.goto (-37), 3) := by decide +kernel
theorem dX10_goneIn_67 : decode cX10_goneIn 67 = .ok (.bipush 9, 2) := by decide +kernel
theorem dX10_goneIn_69 : decode cX10_goneIn 69 = .ok (.ireturn, 1) := by decide +kernel
theorem dX10_undo_0 : decode cX10_undo 0 = .ok (.aload_n 0, 1) := by decide +kernel
theorem dX10_undo_1 : decode cX10_undo 1 = .ok (.getfield 29, 3) := by decide +kernel
theorem dX10_undo_4 : decode cX10_undo 4 = .ok (.getfield 214, 3) := by decide +kernel
theorem dX10_undo_7 : decode cX10_undo 7 = .ok (.ifCond .ne 7, 3) := by decide +kernel
theorem dX10_undo_10 : decode cX10_undo 10 = .ok (.iconst 3, 1) := by decide +kernel
theorem dX10_undo_11 : decode cX10_undo 11 = .ok (.goto 4, 3) := by decide +kernel
theorem dX10_undo_14 : decode cX10_undo 14 = .ok (.iconst 0, 1) := by decide +kernel
theorem dX10_undo_15 : decode cX10_undo 15 = .ok (.invokestatic 44, 3) := by decide +kernel
theorem dX10_undo_18 : decode cX10_undo 18 = .ok (.aload_n 0, 1) := by decide +kernel
theorem dX10_undo_19 : decode cX10_undo 19 = .ok (.getfield 29, 3) := by decide +kernel
theorem dX10_undo_22 : decode cX10_undo 22 = .ok (.aload_n 0, 1) := by decide +kernel
theorem dX10_undo_23 : decode cX10_undo 23 = .ok (.getfield 10, 3) := by decide +kernel
theorem dX10_undo_26 : decode cX10_undo 26 = .ok (.invokevirtual 217, 3) := by decide +kernel
theorem dX10_undo_29 : decode cX10_undo 29 = .ok (.aload_n 0, 1) := by decide +kernel
theorem dX10_undo_30 : decode cX10_undo 30 = .ok (.getfield 29, 3) := by decide +kernel
theorem dX10_undo_33 : decode cX10_undo 33 = .ok (.getfield 214, 3) := by decide +kernel
theorem dX10_undo_36 : decode cX10_undo 36 = .ok (.ireturn, 1) := by decide +kernel
theorem dX10_digest_0 : decode cX10_digest 0 = .ok (.ldc2_w 220, 3) := by decide +kernel
theorem dX10_digest_3 : decode cX10_digest 3 = .ok (.aload_n 0, 1) := by decide +kernel
theorem dX10_digest_4 : decode cX10_digest 4 = .ok (.getfield 29, 3) := by decide +kernel
theorem dX10_digest_7 : decode cX10_digest 7 = .ok (.getfield 214, 3) := by decide +kernel
theorem dX10_digest_10 : decode cX10_digest 10 = .ok (.i2l, 1) := by decide +kernel
theorem dX10_digest_11 : decode cX10_digest 11 = .ok (.invokestatic 222, 3) := by decide +kernel
theorem dX10_digest_14 : decode cX10_digest 14 = .ok (.lstore_n 1, 1) := by decide +kernel
theorem dX10_digest_15 : decode cX10_digest 15 = .ok (.iconst 0, 1) := by decide +kernel
theorem dX10_digest_16 : decode cX10_digest 16 = .ok (.istore_n 3, 1) := by decide +kernel
theorem dX10_digest_17 : decode cX10_digest 17 = .ok (.iload_n 3, 1) := by decide +kernel
theorem dX10_digest_18 : decode cX10_digest 18 = .ok (.bipush 12, 2) := by decide +kernel
theorem dX10_digest_20 : decode cX10_digest 20 = .ok (.if_icmp .ge 20, 3) := by decide +kernel
theorem dX10_digest_23 : decode cX10_digest 23 = .ok (.lload_n 1, 1) := by decide +kernel
theorem dX10_digest_24 : decode cX10_digest 24 = .ok (.aload_n 0, 1) := by decide +kernel
theorem dX10_digest_25 : decode cX10_digest 25 = .ok (.iload_n 3, 1) := by decide +kernel
theorem dX10_digest_26 : decode cX10_digest 26 = .ok (.invokevirtual 156, 3) := by decide +kernel
theorem dX10_digest_29 : decode cX10_digest 29 = .ok (.i2l, 1) := by decide +kernel
theorem dX10_digest_30 : decode cX10_digest 30 = .ok (.invokestatic 222, 3) := by decide +kernel
theorem dX10_digest_33 : decode cX10_digest 33 = .ok (.lstore_n 1, 1) := by decide +kernel
theorem dX10_digest_34 : decode cX10_digest 34 = .ok (.iinc 3 1, 3) := by decide +kernel
theorem dX10_digest_37 : decode cX10_digest 37 = .ok (.goto (-20), 3) := by decide +kernel
theorem dX10_digest_40 : decode cX10_digest 40 = .ok (.aload_n 0, 1) := by decide +kernel
theorem dX10_digest_41 : decode cX10_digest 41 = .ok (.getfield 22, 3) := by decide +kernel
theorem dX10_digest_44 : decode cX10_digest 44 = .ok (.aload_n 0, 1) := by decide +kernel
theorem dX10_digest_45 : decode cX10_digest 45 = .ok (.getfield 10, 3) := by decide +kernel
theorem dX10_digest_48 : decode cX10_digest 48 = .ok (.invokevirtual 150, 3) := by decide +kernel
theorem dX10_digest_51 : decode cX10_digest 51 = .ok (.iconst 0, 1) := by decide +kernel
theorem dX10_digest_52 : decode cX10_digest 52 = .ok (.istore_n 3, 1) := by decide +kernel
theorem dX10_digest_53 : decode cX10_digest 53 = .ok (.iload_n 3, 1) := by decide +kernel
theorem dX10_digest_54 : decode cX10_digest 54 = .ok (.bipush 7, 2) := by decide +kernel
theorem dX10_digest_56 : decode cX10_digest 56 = .ok (.if_icmp .ge 27, 3) := by decide +kernel
theorem dX10_digest_59 : decode cX10_digest 59 = .ok (.lload_n 1, 1) := by decide +kernel
theorem dX10_digest_60 : decode cX10_digest 60 = .ok (.aload_n 0, 1) := by decide +kernel
theorem dX10_digest_61 : decode cX10_digest 61 = .ok (.getfield 22, 3) := by decide +kernel
theorem dX10_digest_64 : decode cX10_digest 64 = .ok (.aload_n 0, 1) := by decide +kernel
theorem dX10_digest_65 : decode cX10_digest 65 = .ok (.getfield 10, 3) := by decide +kernel
theorem dX10_digest_68 : decode cX10_digest 68 = .ok (.iload_n 3, 1) := by decide +kernel
theorem dX10_digest_69 : decode cX10_digest 69 = .ok (.invokevirtual 153, 3) := by decide +kernel
theorem dX10_digest_72 : decode cX10_digest 72 = .ok (.i2l, 1) := by decide +kernel
theorem dX10_digest_73 : decode cX10_digest 73 = .ok (.invokestatic 222, 3) := by decide +kernel
theorem dX10_digest_76 : decode cX10_digest 76 = .ok (.lstore_n 1, 1) := by decide +kernel
theorem dX10_digest_77 : decode cX10_digest 77 = .ok (.iinc 3 1, 3) := by decide +kernel
theorem dX10_digest_80 : decode cX10_digest 80 = .ok (.goto (-27), 3) := by decide +kernel
theorem dX10_digest_83 : decode cX10_digest 83 = .ok (.aload_n 0, 1) := by decide +kernel
theorem dX10_digest_84 : decode cX10_digest 84 = .ok (.aload_n 0, 1) := by decide +kernel
theorem dX10_digest_85 : decode cX10_digest 85 = .ok (.aload_n 0, 1) := by decide +kernel
theorem dX10_digest_86 : decode cX10_digest 86 = .ok (.lload_n 1, 1) := by decide +kernel
theorem dX10_digest_87 : decode cX10_digest 87 = .ok (.invokevirtual 226, 3) := by decide +kernel
theorem dX10_digest_90 : decode cX10_digest 90 = .ok (.invokevirtual 230, 3) := by decide +kernel
theorem dX10_digest_93 : decode cX10_digest 93 = .ok (.invokevirtual 233, 3) := by decide +kernel
theorem dX10_digest_96 : decode cX10_digest 96 = .ok (.lreturn, 1) := by decide +kernel
theorem dX10_mix_0 : decode cX10_mix 0 = .ok (.ldc2_w 236, 3) := by decide +kernel
theorem dX10_mix_3 : decode cX10_mix 3 = .ok (.lload_n 0, 1) := by decide +kernel
theorem dX10_mix_4 : decode cX10_mix 4 = .ok (.lmul, 1) := by decide +kernel
theorem dX10_mix_5 : decode cX10_mix 5 = .ok (.lload_n 2, 1) := by decide +kernel
theorem dX10_mix_6 : decode cX10_mix 6 = .ok (.ladd, 1) := by decide +kernel
theorem dX10_mix_7 : decode cX10_mix 7 = .ok (.lreturn, 1) := by decide +kernel
theorem dX10_mixTraders_0 : decode cX10_mixTraders 0 = .ok (.lload_n 1, 1) := by decide +kernel
theorem dX10_mixTraders_1 : decode cX10_mixTraders 1 = .ok (.lstore_n 3, 1) := by decide +kernel
theorem dX10_mixTraders_2 : decode cX10_mixTraders 2 = .ok (.iconst 0, 1) := by decide +kernel
theorem dX10_mixTraders_3 : decode cX10_mixTraders 3 = .ok (.istore 5, 2) := by decide +kernel
theorem dX10_mixTraders_5 : decode cX10_mixTraders 5 = .ok (.iload 5, 2) := by decide +kernel
theorem dX10_mixTraders_7 : decode cX10_mixTraders 7 = .ok (.aload_n 0, 1) := by decide +kernel
theorem dX10_mixTraders_8 : decode cX10_mixTraders 8 = .ok (.getfield 10, 3) := by decide +kernel
theorem dX10_mixTraders_11 : decode cX10_mixTraders 11 = .ok (.getfield 52, 3) := by decide +kernel
theorem dX10_mixTraders_14 : decode cX10_mixTraders 14 = .ok (.getfield 238, 3) := by decide +kernel
theorem dX10_mixTraders_17 : decode cX10_mixTraders 17 = .ok (.if_icmp .ge 42, 3) := by decide +kernel
theorem dX10_mixTraders_20 : decode cX10_mixTraders 20 = .ok (.iconst 0, 1) := by decide +kernel
theorem dX10_mixTraders_21 : decode cX10_mixTraders 21 = .ok (.istore 6, 2) := by decide +kernel
theorem dX10_mixTraders_23 : decode cX10_mixTraders 23 = .ok (.iload 6, 2) := by decide +kernel
theorem dX10_mixTraders_25 : decode cX10_mixTraders 25 = .ok (.bipush 10, 2) := by decide +kernel
theorem dX10_mixTraders_27 : decode cX10_mixTraders 27 = .ok (.if_icmp .ge 26, 3) := by decide +kernel
theorem dX10_mixTraders_30 : decode cX10_mixTraders 30 = .ok (.lload_n 3, 1) := by decide +kernel
theorem dX10_mixTraders_31 : decode cX10_mixTraders 31 = .ok (.aload_n 0, 1) := by decide +kernel
theorem dX10_mixTraders_32 : decode cX10_mixTraders 32 = .ok (.getfield 10, 3) := by decide +kernel
theorem dX10_mixTraders_35 : decode cX10_mixTraders 35 = .ok (.iload 5, 2) := by decide +kernel
theorem dX10_mixTraders_37 : decode cX10_mixTraders 37 = .ok (.iload 6, 2) := by decide +kernel
theorem dX10_mixTraders_39 : decode cX10_mixTraders 39 = .ok (.invokevirtual 128, 3) := by decide +kernel
theorem dX10_mixTraders_42 : decode cX10_mixTraders 42 = .ok (.i2l, 1) := by decide +kernel
theorem dX10_mixTraders_43 : decode cX10_mixTraders 43 = .ok (.invokestatic 222, 3) := by decide +kernel
theorem dX10_mixTraders_46 : decode cX10_mixTraders 46 = .ok (.lstore_n 3, 1) := by decide +kernel
theorem dX10_mixTraders_47 : decode cX10_mixTraders 47 = .ok (.iinc 6 1, 3) := by decide +kernel
theorem dX10_mixTraders_50 : decode cX10_mixTraders 50 = .ok (.goto (-27), 3) := by decide +kernel
theorem dX10_mixTraders_53 : decode cX10_mixTraders 53 = .ok (.iinc 5 1, 3) := by decide +kernel
theorem dX10_mixTraders_56 : decode cX10_mixTraders 56 = .ok (.goto (-51), 3) := by decide +kernel
theorem dX10_mixTraders_59 : decode cX10_mixTraders 59 = .ok (.lload_n 3, 1) := by decide +kernel
theorem dX10_mixTraders_60 : decode cX10_mixTraders 60 = .ok (.lreturn, 1) := by decide +kernel
theorem dX10_mixOrders_0 : decode cX10_mixOrders 0 = .ok (.lload_n 1, 1) := by decide +kernel
theorem dX10_mixOrders_1 : decode cX10_mixOrders 1 = .ok (.lstore_n 3, 1) := by decide +kernel
theorem dX10_mixOrders_2 : decode cX10_mixOrders 2 = .ok (.iconst 0, 1) := by decide +kernel
theorem dX10_mixOrders_3 : decode cX10_mixOrders 3 = .ok (.istore 5, 2) := by decide +kernel
theorem dX10_mixOrders_5 : decode cX10_mixOrders 5 = .ok (.iload 5, 2) := by decide +kernel
theorem dX10_mixOrders_7 : decode cX10_mixOrders 7 = .ok (.aload_n 0, 1) := by decide +kernel
theorem dX10_mixOrders_8 : decode cX10_mixOrders 8 = .ok (.getfield 10, 3) := by decide +kernel
theorem dX10_mixOrders_11 : decode cX10_mixOrders 11 = .ok (.getfield 104, 3) := by decide +kernel
theorem dX10_mixOrders_14 : decode cX10_mixOrders 14 = .ok (.getfield 239, 3) := by decide +kernel
theorem dX10_mixOrders_17 : decode cX10_mixOrders 17 = .ok (.if_icmp .ge 83, 3) := by decide +kernel
theorem dX10_mixOrders_20 : decode cX10_mixOrders 20 = .ok (.lload_n 3, 1) := by decide +kernel
theorem dX10_mixOrders_21 : decode cX10_mixOrders 21 = .ok (.aload_n 0, 1) := by decide +kernel
theorem dX10_mixOrders_22 : decode cX10_mixOrders 22 = .ok (.getfield 10, 3) := by decide +kernel
theorem dX10_mixOrders_25 : decode cX10_mixOrders 25 = .ok (.getfield 104, 3) := by decide +kernel
theorem dX10_mixOrders_28 : decode cX10_mixOrders 28 = .ok (.getfield 240, 3) := by decide +kernel
theorem dX10_mixOrders_31 : decode cX10_mixOrders 31 = .ok (.iload 5, 2) := by decide +kernel
theorem dX10_mixOrders_33 : decode cX10_mixOrders 33 = .ok (.invokevirtual 68, 3) := by decide +kernel
theorem dX10_mixOrders_36 : decode cX10_mixOrders 36 = .ok (.i2l, 1) := by decide +kernel
theorem dX10_mixOrders_37 : decode cX10_mixOrders 37 = .ok (.invokestatic 222, 3) := by decide +kernel
theorem dX10_mixOrders_40 : decode cX10_mixOrders 40 = .ok (.lstore_n 3, 1) := by decide +kernel
theorem dX10_mixOrders_41 : decode cX10_mixOrders 41 = .ok (.iconst 0, 1) := by decide +kernel
theorem dX10_mixOrders_42 : decode cX10_mixOrders 42 = .ok (.istore 6, 2) := by decide +kernel
theorem dX10_mixOrders_44 : decode cX10_mixOrders 44 = .ok (.iload 6, 2) := by decide +kernel
theorem dX10_mixOrders_46 : decode cX10_mixOrders 46 = .ok (.iconst 5, 1) := by decide +kernel
theorem dX10_mixOrders_47 : decode cX10_mixOrders 47 = .ok (.if_icmp .ge 29, 3) := by decide +kernel
theorem dX10_mixOrders_50 : decode cX10_mixOrders 50 = .ok (.lload_n 3, 1) := by decide +kernel
theorem dX10_mixOrders_51 : decode cX10_mixOrders 51 = .ok (.aload_n 0, 1) := by decide +kernel
theorem dX10_mixOrders_52 : decode cX10_mixOrders 52 = .ok (.getfield 10, 3) := by decide +kernel
theorem dX10_mixOrders_55 : decode cX10_mixOrders 55 = .ok (.getfield 104, 3) := by decide +kernel
theorem dX10_mixOrders_58 : decode cX10_mixOrders 58 = .ok (.iload 5, 2) := by decide +kernel
theorem dX10_mixOrders_60 : decode cX10_mixOrders 60 = .ok (.iload 6, 2) := by decide +kernel
theorem dX10_mixOrders_62 : decode cX10_mixOrders 62 = .ok (.invokevirtual 134, 3) := by decide +kernel
theorem dX10_mixOrders_65 : decode cX10_mixOrders 65 = .ok (.i2l, 1) := by decide +kernel
theorem dX10_mixOrders_66 : decode cX10_mixOrders 66 = .ok (.invokestatic 222, 3) := by decide +kernel
theorem dX10_mixOrders_69 : decode cX10_mixOrders 69 = .ok (.lstore_n 3, 1) := by decide +kernel
theorem dX10_mixOrders_70 : decode cX10_mixOrders 70 = .ok (.iinc 6 1, 3) := by decide +kernel
theorem dX10_mixOrders_73 : decode cX10_mixOrders 73 = .ok (.goto (-29), 3) := by decide +kernel
theorem dX10_mixOrders_76 : decode cX10_mixOrders 76 = .ok (.lload_n 3, 1) := by decide +kernel
theorem dX10_mixOrders_77 : decode cX10_mixOrders 77 = .ok (.aload_n 0, 1) := by decide +kernel
theorem dX10_mixOrders_78 : decode cX10_mixOrders 78 = .ok (.getfield 22, 3) := by decide +kernel
theorem dX10_mixOrders_81 : decode cX10_mixOrders 81 = .ok (.getfield 159, 3) := by decide +kernel
theorem dX10_mixOrders_84 : decode cX10_mixOrders 84 = .ok (.iload 5, 2) := by decide +kernel
theorem dX10_mixOrders_86 : decode cX10_mixOrders 86 = .ok (.invokevirtual 68, 3) := by decide +kernel
theorem dX10_mixOrders_89 : decode cX10_mixOrders 89 = .ok (.i2l, 1) := by decide +kernel
theorem dX10_mixOrders_90 : decode cX10_mixOrders 90 = .ok (.invokestatic 222, 3) := by decide +kernel
theorem dX10_mixOrders_93 : decode cX10_mixOrders 93 = .ok (.lstore_n 3, 1) := by decide +kernel
theorem dX10_mixOrders_94 : decode cX10_mixOrders 94 = .ok (.iinc 5 1, 3) := by decide +kernel
theorem dX10_mixOrders_97 : decode cX10_mixOrders 97 = .ok (.goto (-92), 3) := by decide +kernel
theorem dX10_mixOrders_100 : decode cX10_mixOrders 100 = .ok (.lload_n 3, 1) := by decide +kernel
theorem dX10_mixOrders_101 : decode cX10_mixOrders 101 = .ok (.lreturn, 1) := by decide +kernel
theorem dX10_mixTrades_0 : decode cX10_mixTrades 0 = .ok (.lload_n 1, 1) := by decide +kernel
theorem dX10_mixTrades_1 : decode cX10_mixTrades 1 = .ok (.lstore_n 3, 1) := by decide +kernel
theorem dX10_mixTrades_2 : decode cX10_mixTrades 2 = .ok (.iconst 0, 1) := by decide +kernel
theorem dX10_mixTrades_3 : decode cX10_mixTrades 3 = .ok (.istore 5, 2) := by decide +kernel
theorem dX10_mixTrades_5 : decode cX10_mixTrades 5 = .ok (.iload 5, 2) := by decide +kernel
theorem dX10_mixTrades_7 : decode cX10_mixTrades 7 = .ok (.aload_n 0, 1) := by decide +kernel
theorem dX10_mixTrades_8 : decode cX10_mixTrades 8 = .ok (.getfield 10, 3) := by decide +kernel
theorem dX10_mixTrades_11 : decode cX10_mixTrades 11 = .ok (.getfield 137, 3) := by decide +kernel
theorem dX10_mixTrades_14 : decode cX10_mixTrades 14 = .ok (.getfield 243, 3) := by decide +kernel
theorem dX10_mixTrades_17 : decode cX10_mixTrades 17 = .ok (.if_icmp .ge 44, 3) := by decide +kernel
theorem dX10_mixTrades_20 : decode cX10_mixTrades 20 = .ok (.iconst 0, 1) := by decide +kernel
theorem dX10_mixTrades_21 : decode cX10_mixTrades 21 = .ok (.istore 6, 2) := by decide +kernel
theorem dX10_mixTrades_23 : decode cX10_mixTrades 23 = .ok (.iload 6, 2) := by decide +kernel
theorem dX10_mixTrades_25 : decode cX10_mixTrades 25 = .ok (.iconst 5, 1) := by decide +kernel
theorem dX10_mixTrades_26 : decode cX10_mixTrades 26 = .ok (.if_icmp .ge 29, 3) := by decide +kernel
theorem dX10_mixTrades_29 : decode cX10_mixTrades 29 = .ok (.lload_n 3, 1) := by decide +kernel
theorem dX10_mixTrades_30 : decode cX10_mixTrades 30 = .ok (.aload_n 0, 1) := by decide +kernel
theorem dX10_mixTrades_31 : decode cX10_mixTrades 31 = .ok (.getfield 10, 3) := by decide +kernel
theorem dX10_mixTrades_34 : decode cX10_mixTrades 34 = .ok (.getfield 137, 3) := by decide +kernel
theorem dX10_mixTrades_37 : decode cX10_mixTrades 37 = .ok (.iload 5, 2) := by decide +kernel
theorem dX10_mixTrades_39 : decode cX10_mixTrades 39 = .ok (.iload 6, 2) := by decide +kernel
theorem dX10_mixTrades_41 : decode cX10_mixTrades 41 = .ok (.invokevirtual 141, 3) := by decide +kernel
theorem dX10_mixTrades_44 : decode cX10_mixTrades 44 = .ok (.i2l, 1) := by decide +kernel
theorem dX10_mixTrades_45 : decode cX10_mixTrades 45 = .ok (.invokestatic 222, 3) := by decide +kernel
theorem dX10_mixTrades_48 : decode cX10_mixTrades 48 = .ok (.lstore_n 3, 1) := by decide +kernel
theorem dX10_mixTrades_49 : decode cX10_mixTrades 49 = .ok (.iinc 6 1, 3) := by decide +kernel
theorem dX10_mixTrades_52 : decode cX10_mixTrades 52 = .ok (.goto (-29), 3) := by decide +kernel
theorem dX10_mixTrades_55 : decode cX10_mixTrades 55 = .ok (.iinc 5 1, 3) := by decide +kernel
theorem dX10_mixTrades_58 : decode cX10_mixTrades 58 = .ok (.goto (-53), 3) := by decide +kernel
theorem dX10_mixTrades_61 : decode cX10_mixTrades 61 = .ok (.lload_n 3, 1) := by decide +kernel
theorem dX10_mixTrades_62 : decode cX10_mixTrades 62 = .ok (.lreturn, 1) := by decide +kernel
theorem dX10_refuse_0 : decode cX10_refuse 0 = .ok (.iload_n 0, 1) := by decide +kernel
theorem dX10_refuse_1 : decode cX10_refuse 1 = .ok (.tableswitch 58 1 3 #[27, 37, 47], 27) := by decide +kernel
theorem dX10_refuse_28 : decode cX10_refuse 28 = .ok (.new 244, 3) := by decide +kernel
theorem dX10_refuse_31 : decode cX10_refuse 31 = .ok (.dup, 1) := by decide +kernel
theorem dX10_refuse_32 : decode cX10_refuse 32 = .ok (.ldc 246, 2) := by decide +kernel
theorem dX10_refuse_34 : decode cX10_refuse 34 = .ok (.invokespecial 248, 3) := by decide +kernel
theorem dX10_refuse_37 : decode cX10_refuse 37 = .ok (.athrow, 1) := by decide +kernel
theorem dX10_refuse_38 : decode cX10_refuse 38 = .ok (.new 251, 3) := by decide +kernel
theorem dX10_refuse_41 : decode cX10_refuse 41 = .ok (.dup, 1) := by decide +kernel
theorem dX10_refuse_42 : decode cX10_refuse 42 = .ok (.ldc 253, 2) := by decide +kernel
theorem dX10_refuse_44 : decode cX10_refuse 44 = .ok (.invokespecial 255, 3) := by decide +kernel
theorem dX10_refuse_47 : decode cX10_refuse 47 = .ok (.athrow, 1) := by decide +kernel
theorem dX10_refuse_48 : decode cX10_refuse 48 = .ok (.new 256, 3) := by decide +kernel
theorem dX10_refuse_51 : decode cX10_refuse 51 = .ok (.dup, 1) := by decide +kernel
theorem dX10_refuse_52 : decode cX10_refuse 52 = .ok (.ldc_w 258, 3) := by decide +kernel
theorem dX10_refuse_55 : decode cX10_refuse 55 = .ok (.invokespecial 260, 3) := by decide +kernel
theorem dX10_refuse_58 : decode cX10_refuse 58 = .ok (.athrow, 1) := by decide +kernel
theorem dX10_refuse_59 : decode cX10_refuse 59 = .ok (.return_, 1) := by decide +kernel
theorem dX10_isWithin_0 : decode cX10_isWithin 0 = .ok (.iload_n 0, 1) := by decide +kernel
theorem dX10_isWithin_1 : decode cX10_isWithin 1 = .ok (.iload_n 1, 1) := by decide +kernel
theorem dX10_isWithin_2 : decode cX10_isWithin 2 = .ok (.if_icmp .lt 12, 3) := by decide +kernel
theorem dX10_isWithin_5 : decode cX10_isWithin 5 = .ok (.iload_n 0, 1) := by decide +kernel
theorem dX10_isWithin_6 : decode cX10_isWithin 6 = .ok (.iload_n 2, 1) := by decide +kernel
theorem dX10_isWithin_7 : decode cX10_isWithin 7 = .ok (.if_icmp .gt 7, 3) := by decide +kernel
theorem dX10_isWithin_10 : decode cX10_isWithin 10 = .ok (.iconst 1, 1) := by decide +kernel
theorem dX10_isWithin_11 : decode cX10_isWithin 11 = .ok (.goto 4, 3) := by decide +kernel
theorem dX10_isWithin_14 : decode cX10_isWithin 14 = .ok (.iconst 0, 1) := by decide +kernel
theorem dX10_isWithin_15 : decode cX10_isWithin 15 = .ok (.ireturn, 1) := by decide +kernel
theorem dX10_faultOfWhat_0 : decode cX10_faultOfWhat 0 = .ok (.iload_n 0, 1) := by decide +kernel
theorem dX10_faultOfWhat_1 : decode cX10_faultOfWhat 1 = .ok (.iconst 0, 1) := by decide +kernel
theorem dX10_faultOfWhat_2 : decode cX10_faultOfWhat 2 = .ok (.iload_n 1, 1) := by decide +kernel
theorem dX10_faultOfWhat_3 : decode cX10_faultOfWhat 3 = .ok (.iconst 1, 1) := by decide +kernel
theorem dX10_faultOfWhat_4 : decode cX10_faultOfWhat 4 = .ok (.isub, 1) := by decide +kernel
theorem dX10_faultOfWhat_5 : decode cX10_faultOfWhat 5 = .ok (.invokestatic 261, 3) := by decide +kernel
theorem dX10_faultOfWhat_8 : decode cX10_faultOfWhat 8 = .ok (.ifCond .eq 7, 3) := by decide +kernel
theorem dX10_faultOfWhat_11 : decode cX10_faultOfWhat 11 = .ok (.iconst 0, 1) := by decide +kernel
theorem dX10_faultOfWhat_12 : decode cX10_faultOfWhat 12 = .ok (.goto 4, 3) := by decide +kernel
theorem dX10_faultOfWhat_15 : decode cX10_faultOfWhat 15 = .ok (.iconst 2, 1) := by decide +kernel
theorem dX10_faultOfWhat_16 : decode cX10_faultOfWhat 16 = .ok (.ireturn, 1) := by decide +kernel
theorem dX10_faultOfPrice_0 : decode cX10_faultOfPrice 0 = .ok (.iload_n 0, 1) := by decide +kernel
theorem dX10_faultOfPrice_1 : decode cX10_faultOfPrice 1 = .ok (.iconst 1, 1) := by decide +kernel
theorem dX10_faultOfPrice_2 : decode cX10_faultOfPrice 2 = .ok (.bipush 120, 2) := by decide +kernel
theorem dX10_faultOfPrice_4 : decode cX10_faultOfPrice 4 = .ok (.invokestatic 261, 3) := by decide +kernel
theorem dX10_faultOfPrice_7 : decode cX10_faultOfPrice 7 = .ok (.ifCond .eq 7, 3) := by decide +kernel
theorem dX10_faultOfPrice_10 : decode cX10_faultOfPrice 10 = .ok (.iconst 0, 1) := by decide +kernel
theorem dX10_faultOfPrice_11 : decode cX10_faultOfPrice 11 = .ok (.goto 4, 3) := by decide +kernel
theorem dX10_faultOfPrice_14 : decode cX10_faultOfPrice 14 = .ok (.iconst 2, 1) := by decide +kernel
theorem dX10_faultOfPrice_15 : decode cX10_faultOfPrice 15 = .ok (.ireturn, 1) := by decide +kernel
theorem dX10_wholeValue_0 : decode cX10_wholeValue 0 = .ok (.iload_n 1, 1) := by decide +kernel
theorem dX10_wholeValue_1 : decode cX10_wholeValue 1 = .ok (.bipush 11, 2) := by decide +kernel
theorem dX10_wholeValue_3 : decode cX10_wholeValue 3 = .ok (.if_icmp .ne 13, 3) := by decide +kernel
theorem dX10_wholeValue_6 : decode cX10_wholeValue 6 = .ok (.aload_n 0, 1) := by decide +kernel
theorem dX10_wholeValue_7 : decode cX10_wholeValue 7 = .ok (.getfield 36, 3) := by decide +kernel
theorem dX10_wholeValue_10 : decode cX10_wholeValue 10 = .ok (.getfield 265, 3) := by decide +kernel
theorem dX10_wholeValue_13 : decode cX10_wholeValue 13 = .ok (.goto 11, 3) := by decide +kernel
theorem dX10_wholeValue_16 : decode cX10_wholeValue 16 = .ok (.aload_n 0, 1) := by decide +kernel
theorem dX10_wholeValue_17 : decode cX10_wholeValue 17 = .ok (.getfield 10, 3) := by decide +kernel
theorem dX10_wholeValue_20 : decode cX10_wholeValue 20 = .ok (.iload_n 1, 1) := by decide +kernel
theorem dX10_wholeValue_21 : decode cX10_wholeValue 21 = .ok (.invokevirtual 268, 3) := by decide +kernel
theorem dX10_wholeValue_24 : decode cX10_wholeValue 24 = .ok (.ireturn, 1) := by decide +kernel
theorem dJ9_floorMod_7cf53_0 : decode cJ9_floorMod_7cf53 0 = .ok (.iload_n 0, 1) := by decide +kernel
theorem dJ9_floorMod_7cf53_1 : decode cJ9_floorMod_7cf53 1 = .ok (.iload_n 1, 1) := by decide +kernel
theorem dJ9_floorMod_7cf53_2 : decode cJ9_floorMod_7cf53 2 = .ok (.irem, 1) := by decide +kernel
theorem dJ9_floorMod_7cf53_3 : decode cJ9_floorMod_7cf53 3 = .ok (.istore_n 2, 1) := by decide +kernel
theorem dJ9_floorMod_7cf53_4 : decode cJ9_floorMod_7cf53 4 = .ok (.iload_n 0, 1) := by decide +kernel
theorem dJ9_floorMod_7cf53_5 : decode cJ9_floorMod_7cf53 5 = .ok (.iload_n 1, 1) := by decide +kernel
theorem dJ9_floorMod_7cf53_6 : decode cJ9_floorMod_7cf53 6 = .ok (.ixor, 1) := by decide +kernel
theorem dJ9_floorMod_7cf53_7 : decode cJ9_floorMod_7cf53 7 = .ok (.ifCond .ge 11, 3) := by decide +kernel
theorem dJ9_floorMod_7cf53_10 : decode cJ9_floorMod_7cf53 10 = .ok (.iload_n 2, 1) := by decide +kernel
theorem dJ9_floorMod_7cf53_11 : decode cJ9_floorMod_7cf53 11 = .ok (.ifCond .eq 7, 3) := by decide +kernel
theorem dJ9_floorMod_7cf53_14 : decode cJ9_floorMod_7cf53 14 = .ok (.iload_n 2, 1) := by decide +kernel
theorem dJ9_floorMod_7cf53_15 : decode cJ9_floorMod_7cf53 15 = .ok (.iload_n 1, 1) := by decide +kernel
theorem dJ9_floorMod_7cf53_16 : decode cJ9_floorMod_7cf53 16 = .ok (.iadd, 1) := by decide +kernel
theorem dJ9_floorMod_7cf53_17 : decode cJ9_floorMod_7cf53 17 = .ok (.ireturn, 1) := by decide +kernel
theorem dJ9_floorMod_7cf53_18 : decode cJ9_floorMod_7cf53 18 = .ok (.iload_n 2, 1) := by decide +kernel
theorem dJ9_floorMod_7cf53_19 : decode cJ9_floorMod_7cf53 19 = .ok (.ireturn, 1) := by decide +kernel
theorem dJ9_max_7cf53_0 : decode cJ9_max_7cf53 0 = .ok (.iload_n 0, 1) := by decide +kernel
theorem dJ9_max_7cf53_1 : decode cJ9_max_7cf53 1 = .ok (.iload_n 1, 1) := by decide +kernel
theorem dJ9_max_7cf53_2 : decode cJ9_max_7cf53 2 = .ok (.if_icmp .lt 7, 3) := by decide +kernel
theorem dJ9_max_7cf53_5 : decode cJ9_max_7cf53 5 = .ok (.iload_n 0, 1) := by decide +kernel
theorem dJ9_max_7cf53_6 : decode cJ9_max_7cf53 6 = .ok (.goto 4, 3) := by decide +kernel
theorem dJ9_max_7cf53_9 : decode cJ9_max_7cf53 9 = .ok (.iload_n 1, 1) := by decide +kernel
theorem dJ9_max_7cf53_10 : decode cJ9_max_7cf53 10 = .ok (.ireturn, 1) := by decide +kernel
theorem dJ9_min_7cf53_0 : decode cJ9_min_7cf53 0 = .ok (.iload_n 0, 1) := by decide +kernel
theorem dJ9_min_7cf53_1 : decode cJ9_min_7cf53 1 = .ok (.iload_n 1, 1) := by decide +kernel
theorem dJ9_min_7cf53_2 : decode cJ9_min_7cf53 2 = .ok (.if_icmp .gt 7, 3) := by decide +kernel
theorem dJ9_min_7cf53_5 : decode cJ9_min_7cf53 5 = .ok (.iload_n 0, 1) := by decide +kernel
theorem dJ9_min_7cf53_6 : decode cJ9_min_7cf53 6 = .ok (.goto 4, 3) := by decide +kernel
theorem dJ9_min_7cf53_9 : decode cJ9_min_7cf53 9 = .ok (.iload_n 1, 1) := by decide +kernel
theorem dJ9_min_7cf53_10 : decode cJ9_min_7cf53 10 = .ok (.ireturn, 1) := by decide +kernel
theorem dL_cell_0 : decode cL_cell 0 = .ok (.iload_n 1, 1) := by decide +kernel
theorem dL_cell_1 : decode cL_cell 1 = .ok (.aload_n 0, 1) := by decide +kernel
theorem dL_cell_2 : decode cL_cell 2 = .ok (.arraylength, 1) := by decide +kernel
theorem dL_cell_3 : decode cL_cell 3 = .ok (.if_icmp .ge 9, 3) := by decide +kernel
theorem dL_cell_6 : decode cL_cell 6 = .ok (.aload_n 0, 1) := by decide +kernel
theorem dL_cell_7 : decode cL_cell 7 = .ok (.iload_n 1, 1) := by decide +kernel
theorem dL_cell_8 : decode cL_cell 8 = .ok (.iaload, 1) := by decide +kernel
theorem dL_cell_9 : decode cL_cell 9 = .ok (.goto 9, 3) := by decide +kernel
theorem dL_cell_12 : decode cL_cell 12 = .ok (.ldc 7, 2) := by decide +kernel
theorem dL_cell_14 : decode cL_cell 14 = .ok (.iload_n 1, 1) := by decide +kernel
theorem dL_cell_15 : decode cL_cell 15 = .ok (.iconst 3, 1) := by decide +kernel
theorem dL_cell_16 : decode cL_cell 16 = .ok (.iadd, 1) := by decide +kernel
theorem dL_cell_17 : decode cL_cell 17 = .ok (.imul, 1) := by decide +kernel
theorem dL_cell_18 : decode cL_cell 18 = .ok (.ireturn, 1) := by decide +kernel
theorem dL_up_0 : decode cL_up 0 = .ok (.iload_n 0, 1) := by decide +kernel
theorem dL_up_1 : decode cL_up 1 = .ok (.ldc 8, 2) := by decide +kernel
theorem dL_up_3 : decode cL_up 3 = .ok (.iand, 1) := by decide +kernel
theorem dL_up_4 : decode cL_up 4 = .ok (.iload_n 1, 1) := by decide +kernel
theorem dL_up_5 : decode cL_up 5 = .ok (.irem, 1) := by decide +kernel
theorem dL_up_6 : decode cL_up 6 = .ok (.ireturn, 1) := by decide +kernel
theorem dL_unitsOf_0 : decode cL_unitsOf 0 = .ok (.aload_n 0, 1) := by decide +kernel
theorem dL_unitsOf_1 : decode cL_unitsOf 1 = .ok (.iload_n 1, 1) := by decide +kernel
theorem dL_unitsOf_2 : decode cL_unitsOf 2 = .ok (.iconst 2, 1) := by decide +kernel
theorem dL_unitsOf_3 : decode cL_unitsOf 3 = .ok (.invokevirtual 9, 3) := by decide +kernel
theorem dL_unitsOf_6 : decode cL_unitsOf 6 = .ok (.ireturn, 1) := by decide +kernel
theorem dL_unitsOf_7 : decode cL_unitsOf 7 = .ok (.astore_n 2, 1) := by decide +kernel
theorem dL_unitsOf_8 : decode cL_unitsOf 8 = .ok (.iconst (-1), 1) := by decide +kernel
theorem dL_unitsOf_9 : decode cL_unitsOf 9 = .ok (.ireturn, 1) := by decide +kernel
theorem dL_unitsOf_10 : decode cL_unitsOf 10 = .ok (.astore_n 2, 1) := by decide +kernel
theorem dL_unitsOf_11 : decode cL_unitsOf 11 = .ok (.iconst (-1), 1) := by decide +kernel
theorem dL_unitsOf_12 : decode cL_unitsOf 12 = .ok (.ireturn, 1) := by decide +kernel
theorem dL_view_0 : decode cL_view 0 = .ok (.ldc2_w 19, 3) := by decide +kernel
theorem dL_view_3 : decode cL_view 3 = .ok (.lstore_n 1, 1) := by decide +kernel
theorem dL_view_4 : decode cL_view 4 = .ok (.iconst 0, 1) := by decide +kernel
theorem dL_view_5 : decode cL_view 5 = .ok (.istore_n 3, 1) := by decide +kernel
theorem dL_view_6 : decode cL_view 6 = .ok (.iload_n 3, 1) := by decide +kernel
theorem dL_view_7 : decode cL_view 7 = .ok (.bipush 11, 2) := by decide +kernel
theorem dL_view_9 : decode cL_view 9 = .ok (.if_icmp .ge 22, 3) := by decide +kernel
theorem dL_view_12 : decode cL_view 12 = .ok (.ldc2_w 21, 3) := by decide +kernel
theorem dL_view_15 : decode cL_view 15 = .ok (.lload_n 1, 1) := by decide +kernel
theorem dL_view_16 : decode cL_view 16 = .ok (.lmul, 1) := by decide +kernel
theorem dL_view_17 : decode cL_view 17 = .ok (.aload_n 0, 1) := by decide +kernel
theorem dL_view_18 : decode cL_view 18 = .ok (.iload_n 3, 1) := by decide +kernel
theorem dL_view_19 : decode cL_view 19 = .ok (.invokevirtual 23, 3) := by decide +kernel
theorem dL_view_22 : decode cL_view 22 = .ok (.i2l, 1) := by decide +kernel
theorem dL_view_23 : decode cL_view 23 = .ok (.ladd, 1) := by decide +kernel
theorem dL_view_24 : decode cL_view 24 = .ok (.lstore_n 1, 1) := by decide +kernel
theorem dL_view_25 : decode cL_view 25 = .ok (.iinc 3 1, 3) := by decide +kernel
theorem dL_view_28 : decode cL_view 28 = .ok (.goto (-22), 3) := by decide +kernel
theorem dL_view_31 : decode cL_view 31 = .ok (.iconst 0, 1) := by decide +kernel
theorem dL_view_32 : decode cL_view 32 = .ok (.istore_n 3, 1) := by decide +kernel
theorem dL_view_33 : decode cL_view 33 = .ok (.iload_n 3, 1) := by decide +kernel
theorem dL_view_34 : decode cL_view 34 = .ok (.bipush 7, 2) := by decide +kernel
theorem dL_view_36 : decode cL_view 36 = .ok (.if_icmp .ge 22, 3) := by decide +kernel
theorem dL_view_39 : decode cL_view 39 = .ok (.ldc2_w 21, 3) := by decide +kernel
theorem dL_view_42 : decode cL_view 42 = .ok (.lload_n 1, 1) := by decide +kernel
theorem dL_view_43 : decode cL_view 43 = .ok (.lmul, 1) := by decide +kernel
theorem dL_view_44 : decode cL_view 44 = .ok (.aload_n 0, 1) := by decide +kernel
theorem dL_view_45 : decode cL_view 45 = .ok (.iload_n 3, 1) := by decide +kernel
theorem dL_view_46 : decode cL_view 46 = .ok (.invokevirtual 27, 3) := by decide +kernel
theorem dL_view_49 : decode cL_view 49 = .ok (.i2l, 1) := by decide +kernel
theorem dL_view_50 : decode cL_view 50 = .ok (.ladd, 1) := by decide +kernel
theorem dL_view_51 : decode cL_view 51 = .ok (.lstore_n 1, 1) := by decide +kernel
theorem dL_view_52 : decode cL_view 52 = .ok (.iinc 3 1, 3) := by decide +kernel
theorem dL_view_55 : decode cL_view 55 = .ok (.goto (-22), 3) := by decide +kernel
theorem dL_view_58 : decode cL_view 58 = .ok (.iconst 0, 1) := by decide +kernel
theorem dL_view_59 : decode cL_view 59 = .ok (.istore_n 3, 1) := by decide +kernel
theorem dL_view_60 : decode cL_view 60 = .ok (.iload_n 3, 1) := by decide +kernel
theorem dL_view_61 : decode cL_view 61 = .ok (.aload_n 0, 1) := by decide +kernel
theorem dL_view_62 : decode cL_view 62 = .ok (.iconst 0, 1) := by decide +kernel
theorem dL_view_63 : decode cL_view 63 = .ok (.invokevirtual 23, 3) := by decide +kernel
theorem dL_view_66 : decode cL_view 66 = .ok (.if_icmp .ge 40, 3) := by decide +kernel
theorem dL_view_69 : decode cL_view 69 = .ok (.iconst 0, 1) := by decide +kernel
theorem dL_view_70 : decode cL_view 70 = .ok (.istore 4, 2) := by decide +kernel
theorem dL_view_72 : decode cL_view 72 = .ok (.iload 4, 2) := by decide +kernel
theorem dL_view_74 : decode cL_view 74 = .ok (.bipush 10, 2) := by decide +kernel
theorem dL_view_76 : decode cL_view 76 = .ok (.if_icmp .ge 24, 3) := by decide +kernel
theorem dL_view_79 : decode cL_view 79 = .ok (.ldc2_w 21, 3) := by decide +kernel
theorem dL_view_82 : decode cL_view 82 = .ok (.lload_n 1, 1) := by decide +kernel
theorem dL_view_83 : decode cL_view 83 = .ok (.lmul, 1) := by decide +kernel
theorem dL_view_84 : decode cL_view 84 = .ok (.aload_n 0, 1) := by decide +kernel
theorem dL_view_85 : decode cL_view 85 = .ok (.iload_n 3, 1) := by decide +kernel
theorem dL_view_86 : decode cL_view 86 = .ok (.iload 4, 2) := by decide +kernel
theorem dL_view_88 : decode cL_view 88 = .ok (.invokevirtual 30, 3) := by decide +kernel
theorem dL_view_91 : decode cL_view 91 = .ok (.i2l, 1) := by decide +kernel
theorem dL_view_92 : decode cL_view 92 = .ok (.ladd, 1) := by decide +kernel
theorem dL_view_93 : decode cL_view 93 = .ok (.lstore_n 1, 1) := by decide +kernel
theorem dL_view_94 : decode cL_view 94 = .ok (.iinc 4 1, 3) := by decide +kernel
theorem dL_view_97 : decode cL_view 97 = .ok (.goto (-25), 3) := by decide +kernel
theorem dL_view_100 : decode cL_view 100 = .ok (.iinc 3 1, 3) := by decide +kernel
theorem dL_view_103 : decode cL_view 103 = .ok (.goto (-43), 3) := by decide +kernel
theorem dL_view_106 : decode cL_view 106 = .ok (.iconst 0, 1) := by decide +kernel
theorem dL_view_107 : decode cL_view 107 = .ok (.istore_n 3, 1) := by decide +kernel
theorem dL_view_108 : decode cL_view 108 = .ok (.iload_n 3, 1) := by decide +kernel
theorem dL_view_109 : decode cL_view 109 = .ok (.aload_n 0, 1) := by decide +kernel
theorem dL_view_110 : decode cL_view 110 = .ok (.iconst 5, 1) := by decide +kernel
theorem dL_view_111 : decode cL_view 111 = .ok (.invokevirtual 23, 3) := by decide +kernel
theorem dL_view_114 : decode cL_view 114 = .ok (.if_icmp .ge 59, 3) := by decide +kernel
theorem dL_view_117 : decode cL_view 117 = .ok (.aload_n 0, 1) := by decide +kernel
theorem dL_view_118 : decode cL_view 118 = .ok (.iload_n 3, 1) := by decide +kernel
theorem dL_view_119 : decode cL_view 119 = .ok (.invokestatic 33, 3) := by decide +kernel
theorem dL_view_122 : decode cL_view 122 = .ok (.ifCond .le 7, 3) := by decide +kernel
theorem dL_view_125 : decode cL_view 125 = .ok (.iconst 1, 1) := by decide +kernel
theorem dL_view_126 : decode cL_view 126 = .ok (.goto 4, 3) := by decide +kernel
theorem dL_view_129 : decode cL_view 129 = .ok (.iconst 0, 1) := by decide +kernel
theorem dL_view_130 : decode cL_view 130 = .ok (.istore 4, 2) := by decide +kernel
theorem dL_view_132 : decode cL_view 132 = .ok (.iconst 0, 1) := by decide +kernel
theorem dL_view_133 : decode cL_view 133 = .ok (.istore 5, 2) := by decide +kernel
theorem dL_view_135 : decode cL_view 135 = .ok (.iload 5, 2) := by decide +kernel
theorem dL_view_137 : decode cL_view 137 = .ok (.iconst 5, 1) := by decide +kernel
theorem dL_view_138 : decode cL_view 138 = .ok (.if_icmp .ge 29, 3) := by decide +kernel
theorem dL_view_141 : decode cL_view 141 = .ok (.iload 4, 2) := by decide +kernel
theorem dL_view_143 : decode cL_view 143 = .ok (.ifCond .eq 24, 3) := by decide +kernel
theorem dL_view_146 : decode cL_view 146 = .ok (.ldc2_w 21, 3) := by decide +kernel
theorem dL_view_149 : decode cL_view 149 = .ok (.lload_n 1, 1) := by decide +kernel
theorem dL_view_150 : decode cL_view 150 = .ok (.lmul, 1) := by decide +kernel
theorem dL_view_151 : decode cL_view 151 = .ok (.aload_n 0, 1) := by decide +kernel
theorem dL_view_152 : decode cL_view 152 = .ok (.iload_n 3, 1) := by decide +kernel
theorem dL_view_153 : decode cL_view 153 = .ok (.iload 5, 2) := by decide +kernel
theorem dL_view_155 : decode cL_view 155 = .ok (.invokevirtual 9, 3) := by decide +kernel
theorem dL_view_158 : decode cL_view 158 = .ok (.i2l, 1) := by decide +kernel
theorem dL_view_159 : decode cL_view 159 = .ok (.ladd, 1) := by decide +kernel
theorem dL_view_160 : decode cL_view 160 = .ok (.lstore_n 1, 1) := by decide +kernel
theorem dL_view_161 : decode cL_view 161 = .ok (.iinc 5 1, 3) := by decide +kernel
theorem dL_view_164 : decode cL_view 164 = .ok (.goto (-29), 3) := by decide +kernel
theorem dL_view_167 : decode cL_view 167 = .ok (.iinc 3 1, 3) := by decide +kernel
theorem dL_view_170 : decode cL_view 170 = .ok (.goto (-62), 3) := by decide +kernel
theorem dL_view_173 : decode cL_view 173 = .ok (.iconst 0, 1) := by decide +kernel
theorem dL_view_174 : decode cL_view 174 = .ok (.istore_n 3, 1) := by decide +kernel
theorem dL_view_175 : decode cL_view 175 = .ok (.iload_n 3, 1) := by decide +kernel
theorem dL_view_176 : decode cL_view 176 = .ok (.aload_n 0, 1) := by decide +kernel
theorem dL_view_177 : decode cL_view 177 = .ok (.bipush 9, 2) := by decide +kernel
theorem dL_view_179 : decode cL_view 179 = .ok (.invokevirtual 23, 3) := by decide +kernel
theorem dL_view_182 : decode cL_view 182 = .ok (.if_icmp .ge 39, 3) := by decide +kernel
theorem dL_view_185 : decode cL_view 185 = .ok (.iconst 0, 1) := by decide +kernel
theorem dL_view_186 : decode cL_view 186 = .ok (.istore 4, 2) := by decide +kernel
theorem dL_view_188 : decode cL_view 188 = .ok (.iload 4, 2) := by decide +kernel
theorem dL_view_190 : decode cL_view 190 = .ok (.iconst 5, 1) := by decide +kernel
theorem dL_view_191 : decode cL_view 191 = .ok (.if_icmp .ge 24, 3) := by decide +kernel
theorem dL_view_194 : decode cL_view 194 = .ok (.ldc2_w 21, 3) := by decide +kernel
theorem dL_view_197 : decode cL_view 197 = .ok (.lload_n 1, 1) := by decide +kernel
theorem dL_view_198 : decode cL_view 198 = .ok (.lmul, 1) := by decide +kernel
theorem dL_view_199 : decode cL_view 199 = .ok (.aload_n 0, 1) := by decide +kernel
theorem dL_view_200 : decode cL_view 200 = .ok (.iload_n 3, 1) := by decide +kernel
theorem dL_view_201 : decode cL_view 201 = .ok (.iload 4, 2) := by decide +kernel
theorem dL_view_203 : decode cL_view 203 = .ok (.invokevirtual 39, 3) := by decide +kernel
theorem dL_view_206 : decode cL_view 206 = .ok (.i2l, 1) := by decide +kernel
theorem dL_view_207 : decode cL_view 207 = .ok (.ladd, 1) := by decide +kernel
theorem dL_view_208 : decode cL_view 208 = .ok (.lstore_n 1, 1) := by decide +kernel
theorem dL_view_209 : decode cL_view 209 = .ok (.iinc 4 1, 3) := by decide +kernel
theorem dL_view_212 : decode cL_view 212 = .ok (.goto (-24), 3) := by decide +kernel
theorem dL_view_215 : decode cL_view 215 = .ok (.iinc 3 1, 3) := by decide +kernel
theorem dL_view_218 : decode cL_view 218 = .ok (.goto (-43), 3) := by decide +kernel
theorem dL_view_221 : decode cL_view 221 = .ok (.lload_n 1, 1) := by decide +kernel
theorem dL_view_222 : decode cL_view 222 = .ok (.lreturn, 1) := by decide +kernel
theorem dL_any_0 : decode cL_any 0 = .ok (.iload_n 2, 1) := by decide +kernel
theorem dL_any_1 : decode cL_any 1 = .ok (.bipush 7, 2) := by decide +kernel
theorem dL_any_3 : decode cL_any 3 = .ok (.iand, 1) := by decide +kernel
theorem dL_any_4 : decode cL_any 4 = .ok (.tableswitch 95 0 6 #[44, 51, 58, 66, 73, 80, 88], 44) := by decide +kernel
theorem dL_any_48 : decode cL_any 48 = .ok (.aload_n 0, 1) := by decide +kernel
theorem dL_any_49 : decode cL_any 49 = .ok (.iload_n 1, 1) := by decide +kernel
theorem dL_any_50 : decode cL_any 50 = .ok (.iload_n 2, 1) := by decide +kernel
theorem dL_any_51 : decode cL_any 51 = .ok (.invokevirtual 42, 3) := by decide +kernel
theorem dL_any_54 : decode cL_any 54 = .ok (.ireturn, 1) := by decide +kernel
theorem dL_any_55 : decode cL_any 55 = .ok (.aload_n 0, 1) := by decide +kernel
theorem dL_any_56 : decode cL_any 56 = .ok (.iload_n 1, 1) := by decide +kernel
theorem dL_any_57 : decode cL_any 57 = .ok (.iload_n 2, 1) := by decide +kernel
theorem dL_any_58 : decode cL_any 58 = .ok (.invokevirtual 45, 3) := by decide +kernel
theorem dL_any_61 : decode cL_any 61 = .ok (.ireturn, 1) := by decide +kernel
theorem dL_any_62 : decode cL_any 62 = .ok (.aload_n 0, 1) := by decide +kernel
theorem dL_any_63 : decode cL_any 63 = .ok (.iload_n 1, 1) := by decide +kernel
theorem dL_any_64 : decode cL_any 64 = .ok (.iload_n 2, 1) := by decide +kernel
theorem dL_any_65 : decode cL_any 65 = .ok (.iload_n 1, 1) := by decide +kernel
theorem dL_any_66 : decode cL_any 66 = .ok (.invokevirtual 48, 3) := by decide +kernel
theorem dL_any_69 : decode cL_any 69 = .ok (.ireturn, 1) := by decide +kernel
theorem dL_any_70 : decode cL_any 70 = .ok (.aload_n 0, 1) := by decide +kernel
theorem dL_any_71 : decode cL_any 71 = .ok (.iload_n 1, 1) := by decide +kernel
theorem dL_any_72 : decode cL_any 72 = .ok (.iload_n 2, 1) := by decide +kernel
theorem dL_any_73 : decode cL_any 73 = .ok (.invokevirtual 52, 3) := by decide +kernel
theorem dL_any_76 : decode cL_any 76 = .ok (.ireturn, 1) := by decide +kernel
theorem dL_any_77 : decode cL_any 77 = .ok (.aload_n 0, 1) := by decide +kernel
theorem dL_any_78 : decode cL_any 78 = .ok (.iload_n 1, 1) := by decide +kernel
theorem dL_any_79 : decode cL_any 79 = .ok (.iload_n 2, 1) := by decide +kernel
theorem dL_any_80 : decode cL_any 80 = .ok (.invokevirtual 55, 3) := by decide +kernel
theorem dL_any_83 : decode cL_any 83 = .ok (.ireturn, 1) := by decide +kernel
theorem dL_any_84 : decode cL_any 84 = .ok (.aload_n 0, 1) := by decide +kernel
theorem dL_any_85 : decode cL_any 85 = .ok (.iload_n 1, 1) := by decide +kernel
theorem dL_any_86 : decode cL_any 86 = .ok (.iload_n 2, 1) := by decide +kernel
theorem dL_any_87 : decode cL_any 87 = .ok (.iload_n 1, 1) := by decide +kernel
theorem dL_any_88 : decode cL_any 88 = .ok (.invokevirtual 58, 3) := by decide +kernel
theorem dL_any_91 : decode cL_any 91 = .ok (.ireturn, 1) := by decide +kernel
theorem dL_any_92 : decode cL_any 92 = .ok (.aload_n 0, 1) := by decide +kernel
theorem dL_any_93 : decode cL_any 93 = .ok (.iload_n 1, 1) := by decide +kernel
theorem dL_any_94 : decode cL_any 94 = .ok (.iload_n 2, 1) := by decide +kernel
theorem dL_any_95 : decode cL_any 95 = .ok (.invokevirtual 61, 3) := by decide +kernel
theorem dL_any_98 : decode cL_any 98 = .ok (.ireturn, 1) := by decide +kernel
theorem dL_any_99 : decode cL_any 99 = .ok (.aload_n 0, 1) := by decide +kernel
theorem dL_any_100 : decode cL_any 100 = .ok (.iload_n 1, 1) := by decide +kernel
theorem dL_any_101 : decode cL_any 101 = .ok (.invokevirtual 64, 3) := by decide +kernel
theorem dL_any_104 : decode cL_any 104 = .ok (.ireturn, 1) := by decide +kernel
theorem dL_isAct_0 : decode cL_isAct 0 = .ok (.iload_n 0, 1) := by decide +kernel
theorem dL_isAct_1 : decode cL_isAct 1 = .ok (.bipush 12, 2) := by decide +kernel
theorem dL_isAct_3 : decode cL_isAct 3 = .ok (.if_icmp .lt 18, 3) := by decide +kernel
theorem dL_isAct_6 : decode cL_isAct 6 = .ok (.iload_n 0, 1) := by decide +kernel
theorem dL_isAct_7 : decode cL_isAct 7 = .ok (.bipush 14, 2) := by decide +kernel
theorem dL_isAct_9 : decode cL_isAct 9 = .ok (.if_icmp .le 16, 3) := by decide +kernel
theorem dL_isAct_12 : decode cL_isAct 12 = .ok (.iload_n 1, 1) := by decide +kernel
theorem dL_isAct_13 : decode cL_isAct 13 = .ok (.bipush 7, 2) := by decide +kernel
theorem dL_isAct_15 : decode cL_isAct 15 = .ok (.iand, 1) := by decide +kernel
theorem dL_isAct_16 : decode cL_isAct 16 = .ok (.bipush 6, 2) := by decide +kernel
theorem dL_isAct_18 : decode cL_isAct 18 = .ok (.if_icmp .ge 7, 3) := by decide +kernel
theorem dL_isAct_21 : decode cL_isAct 21 = .ok (.iconst 1, 1) := by decide +kernel
theorem dL_isAct_22 : decode cL_isAct 22 = .ok (.goto 4, 3) := by decide +kernel
theorem dL_isAct_25 : decode cL_isAct 25 = .ok (.iconst 0, 1) := by decide +kernel
theorem dL_isAct_26 : decode cL_isAct 26 = .ok (.ireturn, 1) := by decide +kernel
theorem dL_turn_0 : decode cL_turn 0 = .ok (.iload_n 2, 1) := by decide +kernel
theorem dL_turn_1 : decode cL_turn 1 = .ok (.bipush 6, 2) := by decide +kernel
theorem dL_turn_3 : decode cL_turn 3 = .ok (.invokestatic 67, 3) := by decide +kernel
theorem dL_turn_6 : decode cL_turn 6 = .ok (.istore 4, 2) := by decide +kernel
theorem dL_turn_8 : decode cL_turn 8 = .ok (.iload_n 1, 1) := by decide +kernel
theorem dL_turn_9 : decode cL_turn 9 = .ok (.tableswitch 230 0 14 #[75, 91, 106, 126, 140, 140, 140, 155, 155, 181, 192, 192, 197, 212, 223], 75) := by decide +kernel
theorem dL_turn_84 : decode cL_turn 84 = .ok (.aload_n 0, 1) := by decide +kernel
theorem dL_turn_85 : decode cL_turn 85 = .ok (.iload_n 3, 1) := by decide +kernel
theorem dL_turn_86 : decode cL_turn 86 = .ok (.iconst 1, 1) := by decide +kernel
theorem dL_turn_87 : decode cL_turn 87 = .ok (.iand, 1) := by decide +kernel
theorem dL_turn_88 : decode cL_turn 88 = .ok (.iconst 1, 1) := by decide +kernel
theorem dL_turn_89 : decode cL_turn 89 = .ok (.iload_n 2, 1) := by decide +kernel
theorem dL_turn_90 : decode cL_turn 90 = .ok (.bipush 99, 2) := by decide +kernel
theorem dL_turn_92 : decode cL_turn 92 = .ok (.invokestatic 67, 3) := by decide +kernel
theorem dL_turn_95 : decode cL_turn 95 = .ok (.iadd, 1) := by decide +kernel
theorem dL_turn_96 : decode cL_turn 96 = .ok (.invokevirtual 42, 3) := by decide +kernel
theorem dL_turn_99 : decode cL_turn 99 = .ok (.ireturn, 1) := by decide +kernel
theorem dL_turn_100 : decode cL_turn 100 = .ok (.aload_n 0, 1) := by decide +kernel
theorem dL_turn_101 : decode cL_turn 101 = .ok (.iload 4, 2) := by decide +kernel
theorem dL_turn_103 : decode cL_turn 103 = .ok (.iconst 1, 1) := by decide +kernel
theorem dL_turn_104 : decode cL_turn 104 = .ok (.iload_n 3, 1) := by decide +kernel
theorem dL_turn_105 : decode cL_turn 105 = .ok (.bipush 99, 2) := by decide +kernel
theorem dL_turn_107 : decode cL_turn 107 = .ok (.invokestatic 67, 3) := by decide +kernel
theorem dL_turn_110 : decode cL_turn 110 = .ok (.iadd, 1) := by decide +kernel
theorem dL_turn_111 : decode cL_turn 111 = .ok (.invokevirtual 45, 3) := by decide +kernel
theorem dL_turn_114 : decode cL_turn 114 = .ok (.ireturn, 1) := by decide +kernel
theorem dL_turn_115 : decode cL_turn 115 = .ok (.aload_n 0, 1) := by decide +kernel
theorem dL_turn_116 : decode cL_turn 116 = .ok (.iload 4, 2) := by decide +kernel
theorem dL_turn_118 : decode cL_turn 118 = .ok (.iload_n 3, 1) := by decide +kernel
theorem dL_turn_119 : decode cL_turn 119 = .ok (.iconst 4, 1) := by decide +kernel
theorem dL_turn_120 : decode cL_turn 120 = .ok (.invokestatic 67, 3) := by decide +kernel
theorem dL_turn_123 : decode cL_turn 123 = .ok (.iload_n 3, 1) := by decide +kernel
theorem dL_turn_124 : decode cL_turn 124 = .ok (.iconst 4, 1) := by decide +kernel
theorem dL_turn_125 : decode cL_turn 125 = .ok (.ishr, 1) := by decide +kernel
theorem dL_turn_126 : decode cL_turn 126 = .ok (.bipush 51, 2) := by decide +kernel
theorem dL_turn_128 : decode cL_turn 128 = .ok (.invokestatic 67, 3) := by decide +kernel
theorem dL_turn_131 : decode cL_turn 131 = .ok (.invokevirtual 48, 3) := by decide +kernel
theorem dL_turn_134 : decode cL_turn 134 = .ok (.ireturn, 1) := by decide +kernel
theorem dL_turn_135 : decode cL_turn 135 = .ok (.aload_n 0, 1) := by decide +kernel
theorem dL_turn_136 : decode cL_turn 136 = .ok (.iload_n 2, 1) := by decide +kernel
theorem dL_turn_137 : decode cL_turn 137 = .ok (.iconst 1, 1) := by decide +kernel
theorem dL_turn_138 : decode cL_turn 138 = .ok (.iand, 1) := by decide +kernel
theorem dL_turn_139 : decode cL_turn 139 = .ok (.iload_n 3, 1) := by decide +kernel
theorem dL_turn_140 : decode cL_turn 140 = .ok (.bipush 12, 2) := by decide +kernel
theorem dL_turn_142 : decode cL_turn 142 = .ok (.invokestatic 67, 3) := by decide +kernel
theorem dL_turn_145 : decode cL_turn 145 = .ok (.invokevirtual 52, 3) := by decide +kernel
theorem dL_turn_148 : decode cL_turn 148 = .ok (.ireturn, 1) := by decide +kernel
theorem dL_turn_149 : decode cL_turn 149 = .ok (.aload_n 0, 1) := by decide +kernel
theorem dL_turn_150 : decode cL_turn 150 = .ok (.iload 4, 2) := by decide +kernel
theorem dL_turn_152 : decode cL_turn 152 = .ok (.iconst 1, 1) := by decide +kernel
theorem dL_turn_153 : decode cL_turn 153 = .ok (.iload_n 3, 1) := by decide +kernel
theorem dL_turn_154 : decode cL_turn 154 = .ok (.bipush 9, 2) := by decide +kernel
theorem dL_turn_156 : decode cL_turn 156 = .ok (.invokestatic 67, 3) := by decide +kernel
theorem dL_turn_159 : decode cL_turn 159 = .ok (.iadd, 1) := by decide +kernel
theorem dL_turn_160 : decode cL_turn 160 = .ok (.invokevirtual 55, 3) := by decide +kernel
theorem dL_turn_163 : decode cL_turn 163 = .ok (.ireturn, 1) := by decide +kernel
theorem dL_turn_164 : decode cL_turn 164 = .ok (.aload_n 0, 1) := by decide +kernel
theorem dL_turn_165 : decode cL_turn 165 = .ok (.iload 4, 2) := by decide +kernel
theorem dL_turn_167 : decode cL_turn 167 = .ok (.iconst 1, 1) := by decide +kernel
theorem dL_turn_168 : decode cL_turn 168 = .ok (.iload_n 3, 1) := by decide +kernel
theorem dL_turn_169 : decode cL_turn 169 = .ok (.bipush 120, 2) := by decide +kernel
theorem dL_turn_171 : decode cL_turn 171 = .ok (.invokestatic 67, 3) := by decide +kernel
theorem dL_turn_174 : decode cL_turn 174 = .ok (.iadd, 1) := by decide +kernel
theorem dL_turn_175 : decode cL_turn 175 = .ok (.iconst 1, 1) := by decide +kernel
theorem dL_turn_176 : decode cL_turn 176 = .ok (.iload_n 3, 1) := by decide +kernel
theorem dL_turn_177 : decode cL_turn 177 = .ok (.bipush 8, 2) := by decide +kernel
theorem dL_turn_179 : decode cL_turn 179 = .ok (.ishr, 1) := by decide +kernel
theorem dL_turn_180 : decode cL_turn 180 = .ok (.bipush 9, 2) := by decide +kernel
theorem dL_turn_182 : decode cL_turn 182 = .ok (.invokestatic 67, 3) := by decide +kernel
theorem dL_turn_185 : decode cL_turn 185 = .ok (.iadd, 1) := by decide +kernel
theorem dL_turn_186 : decode cL_turn 186 = .ok (.invokevirtual 58, 3) := by decide +kernel
theorem dL_turn_189 : decode cL_turn 189 = .ok (.ireturn, 1) := by decide +kernel
theorem dL_turn_190 : decode cL_turn 190 = .ok (.aload_n 0, 1) := by decide +kernel
theorem dL_turn_191 : decode cL_turn 191 = .ok (.iload_n 2, 1) := by decide +kernel
theorem dL_turn_192 : decode cL_turn 192 = .ok (.bipush 30, 2) := by decide +kernel
theorem dL_turn_194 : decode cL_turn 194 = .ok (.invokestatic 67, 3) := by decide +kernel
theorem dL_turn_197 : decode cL_turn 197 = .ok (.invokevirtual 70, 3) := by decide +kernel
theorem dL_turn_200 : decode cL_turn 200 = .ok (.ireturn, 1) := by decide +kernel
theorem dL_turn_201 : decode cL_turn 201 = .ok (.aload_n 0, 1) := by decide +kernel
theorem dL_turn_202 : decode cL_turn 202 = .ok (.invokevirtual 73, 3) := by decide +kernel
theorem dL_turn_205 : decode cL_turn 205 = .ok (.ireturn, 1) := by decide +kernel
theorem dL_turn_206 : decode cL_turn 206 = .ok (.aload_n 0, 1) := by decide +kernel
theorem dL_turn_207 : decode cL_turn 207 = .ok (.iload 4, 2) := by decide +kernel
theorem dL_turn_209 : decode cL_turn 209 = .ok (.iconst 1, 1) := by decide +kernel
theorem dL_turn_210 : decode cL_turn 210 = .ok (.iload_n 3, 1) := by decide +kernel
theorem dL_turn_211 : decode cL_turn 211 = .ok (.bipush 120, 2) := by decide +kernel
theorem dL_turn_213 : decode cL_turn 213 = .ok (.invokestatic 67, 3) := by decide +kernel
theorem dL_turn_216 : decode cL_turn 216 = .ok (.iadd, 1) := by decide +kernel
theorem dL_turn_217 : decode cL_turn 217 = .ok (.invokevirtual 61, 3) := by decide +kernel
theorem dL_turn_220 : decode cL_turn 220 = .ok (.ireturn, 1) := by decide +kernel
theorem dL_turn_221 : decode cL_turn 221 = .ok (.aload_n 0, 1) := by decide +kernel
theorem dL_turn_222 : decode cL_turn 222 = .ok (.iload_n 2, 1) := by decide +kernel
theorem dL_turn_223 : decode cL_turn 223 = .ok (.bipush 30, 2) := by decide +kernel
theorem dL_turn_225 : decode cL_turn 225 = .ok (.invokestatic 67, 3) := by decide +kernel
theorem dL_turn_228 : decode cL_turn 228 = .ok (.invokevirtual 77, 3) := by decide +kernel
theorem dL_turn_231 : decode cL_turn 231 = .ok (.ireturn, 1) := by decide +kernel
theorem dL_turn_232 : decode cL_turn 232 = .ok (.aload_n 0, 1) := by decide +kernel
theorem dL_turn_233 : decode cL_turn 233 = .ok (.iload 4, 2) := by decide +kernel
theorem dL_turn_235 : decode cL_turn 235 = .ok (.invokevirtual 80, 3) := by decide +kernel
theorem dL_turn_238 : decode cL_turn 238 = .ok (.ireturn, 1) := by decide +kernel
theorem dL_turn_239 : decode cL_turn 239 = .ok (.aload_n 0, 1) := by decide +kernel
theorem dL_turn_240 : decode cL_turn 240 = .ok (.iload_n 2, 1) := by decide +kernel
theorem dL_turn_241 : decode cL_turn 241 = .ok (.iload_n 3, 1) := by decide +kernel
theorem dL_turn_242 : decode cL_turn 242 = .ok (.invokestatic 83, 3) := by decide +kernel
theorem dL_turn_245 : decode cL_turn 245 = .ok (.ireturn, 1) := by decide +kernel
theorem dL_tries_0 : decode cL_tries 0 = .ok (.aload_n 0, 1) := by decide +kernel
theorem dL_tries_1 : decode cL_tries 1 = .ok (.iload_n 1, 1) := by decide +kernel
theorem dL_tries_2 : decode cL_tries 2 = .ok (.iload_n 2, 1) := by decide +kernel
theorem dL_tries_3 : decode cL_tries 3 = .ok (.iload_n 3, 1) := by decide +kernel
theorem dL_tries_4 : decode cL_tries 4 = .ok (.invokestatic 87, 3) := by decide +kernel
theorem dL_tries_7 : decode cL_tries 7 = .ok (.ireturn, 1) := by decide +kernel
theorem dL_tries_8 : decode cL_tries 8 = .ok (.astore 4, 2) := by decide +kernel
theorem dL_tries_10 : decode cL_tries 10 = .ok (.ldc 91, 2) := by decide +kernel
theorem dL_tries_12 : decode cL_tries 12 = .ok (.ireturn, 1) := by decide +kernel
theorem dL_tries_13 : decode cL_tries 13 = .ok (.astore 4, 2) := by decide +kernel
theorem dL_tries_15 : decode cL_tries 15 = .ok (.ldc 91, 2) := by decide +kernel
theorem dL_tries_17 : decode cL_tries 17 = .ok (.ireturn, 1) := by decide +kernel
theorem dL_tries_18 : decode cL_tries 18 = .ok (.astore 4, 2) := by decide +kernel
theorem dL_tries_20 : decode cL_tries 20 = .ok (.ldc 91, 2) := by decide +kernel
theorem dL_tries_22 : decode cL_tries 22 = .ok (.ireturn, 1) := by decide +kernel
theorem dL_areRight_0 : decode cL_areRight 0 = .ok (.iconst 0, 1) := by decide +kernel
theorem dL_areRight_1 : decode cL_areRight 1 = .ok (.istore_n 1, 1) := by decide +kernel
theorem dL_areRight_2 : decode cL_areRight 2 = .ok (.iconst 0, 1) := by decide +kernel
theorem dL_areRight_3 : decode cL_areRight 3 = .ok (.istore_n 2, 1) := by decide +kernel
theorem dL_areRight_4 : decode cL_areRight 4 = .ok (.iconst 0, 1) := by decide +kernel
theorem dL_areRight_5 : decode cL_areRight 5 = .ok (.istore_n 3, 1) := by decide +kernel
theorem dL_areRight_6 : decode cL_areRight 6 = .ok (.iconst 0, 1) := by decide +kernel
theorem dL_areRight_7 : decode cL_areRight 7 = .ok (.istore 4, 2) := by decide +kernel
theorem dL_areRight_9 : decode cL_areRight 9 = .ok (.iconst 0, 1) := by decide +kernel
theorem dL_areRight_10 : decode cL_areRight 10 = .ok (.istore 5, 2) := by decide +kernel
theorem dL_areRight_12 : decode cL_areRight 12 = .ok (.iload 5, 2) := by decide +kernel
theorem dL_areRight_14 : decode cL_areRight 14 = .ok (.aload_n 0, 1) := by decide +kernel
theorem dL_areRight_15 : decode cL_areRight 15 = .ok (.iconst 0, 1) := by decide +kernel
theorem dL_areRight_16 : decode cL_areRight 16 = .ok (.invokevirtual 23, 3) := by decide +kernel
theorem dL_areRight_19 : decode cL_areRight 19 = .ok (.if_icmp .ge 54, 3) := by decide +kernel
theorem dL_areRight_22 : decode cL_areRight 22 = .ok (.iload_n 1, 1) := by decide +kernel
theorem dL_areRight_23 : decode cL_areRight 23 = .ok (.aload_n 0, 1) := by decide +kernel
theorem dL_areRight_24 : decode cL_areRight 24 = .ok (.iload 5, 2) := by decide +kernel
theorem dL_areRight_26 : decode cL_areRight 26 = .ok (.bipush 7, 2) := by decide +kernel
theorem dL_areRight_28 : decode cL_areRight 28 = .ok (.invokevirtual 30, 3) := by decide +kernel
theorem dL_areRight_31 : decode cL_areRight 31 = .ok (.iadd, 1) := by decide +kernel
theorem dL_areRight_32 : decode cL_areRight 32 = .ok (.istore_n 1, 1) := by decide +kernel
theorem dL_areRight_33 : decode cL_areRight 33 = .ok (.iload_n 2, 1) := by decide +kernel
theorem dL_areRight_34 : decode cL_areRight 34 = .ok (.aload_n 0, 1) := by decide +kernel
theorem dL_areRight_35 : decode cL_areRight 35 = .ok (.iload 5, 2) := by decide +kernel
theorem dL_areRight_37 : decode cL_areRight 37 = .ok (.bipush 8, 2) := by decide +kernel
theorem dL_areRight_39 : decode cL_areRight 39 = .ok (.invokevirtual 30, 3) := by decide +kernel
theorem dL_areRight_42 : decode cL_areRight 42 = .ok (.iadd, 1) := by decide +kernel
theorem dL_areRight_43 : decode cL_areRight 43 = .ok (.istore_n 2, 1) := by decide +kernel
theorem dL_areRight_44 : decode cL_areRight 44 = .ok (.iload_n 3, 1) := by decide +kernel
theorem dL_areRight_45 : decode cL_areRight 45 = .ok (.aload_n 0, 1) := by decide +kernel
theorem dL_areRight_46 : decode cL_areRight 46 = .ok (.iload 5, 2) := by decide +kernel
theorem dL_areRight_48 : decode cL_areRight 48 = .ok (.bipush 9, 2) := by decide +kernel
theorem dL_areRight_50 : decode cL_areRight 50 = .ok (.invokevirtual 30, 3) := by decide +kernel
theorem dL_areRight_53 : decode cL_areRight 53 = .ok (.iadd, 1) := by decide +kernel
theorem dL_areRight_54 : decode cL_areRight 54 = .ok (.istore_n 3, 1) := by decide +kernel
theorem dL_areRight_55 : decode cL_areRight 55 = .ok (.iload 4, 2) := by decide +kernel
theorem dL_areRight_57 : decode cL_areRight 57 = .ok (.aload_n 0, 1) := by decide +kernel
theorem dL_areRight_58 : decode cL_areRight 58 = .ok (.iload 5, 2) := by decide +kernel
theorem dL_areRight_60 : decode cL_areRight 60 = .ok (.iconst 5, 1) := by decide +kernel
theorem dL_areRight_61 : decode cL_areRight 61 = .ok (.invokevirtual 30, 3) := by decide +kernel
theorem dL_areRight_64 : decode cL_areRight 64 = .ok (.iadd, 1) := by decide +kernel
theorem dL_areRight_65 : decode cL_areRight 65 = .ok (.istore 4, 2) := by decide +kernel
theorem dL_areRight_67 : decode cL_areRight 67 = .ok (.iinc 5 1, 3) := by decide +kernel
theorem dL_areRight_70 : decode cL_areRight 70 = .ok (.goto (-58), 3) := by decide +kernel
theorem dL_areRight_73 : decode cL_areRight 73 = .ok (.iconst 0, 1) := by decide +kernel
theorem dL_areRight_74 : decode cL_areRight 74 = .ok (.istore 5, 2) := by decide +kernel
theorem dL_areRight_76 : decode cL_areRight 76 = .ok (.iconst 0, 1) := by decide +kernel
theorem dL_areRight_77 : decode cL_areRight 77 = .ok (.istore 6, 2) := by decide +kernel
theorem dL_areRight_79 : decode cL_areRight 79 = .ok (.iload 6, 2) := by decide +kernel
theorem dL_areRight_81 : decode cL_areRight 81 = .ok (.aload_n 0, 1) := by decide +kernel
theorem dL_areRight_82 : decode cL_areRight 82 = .ok (.iconst 5, 1) := by decide +kernel
theorem dL_areRight_83 : decode cL_areRight 83 = .ok (.invokevirtual 23, 3) := by decide +kernel
theorem dL_areRight_86 : decode cL_areRight 86 = .ok (.if_icmp .ge 28, 3) := by decide +kernel
theorem dL_areRight_89 : decode cL_areRight 89 = .ok (.iload 5, 2) := by decide +kernel
theorem dL_areRight_91 : decode cL_areRight 91 = .ok (.aload_n 0, 1) := by decide +kernel
theorem dL_areRight_92 : decode cL_areRight 92 = .ok (.iload 6, 2) := by decide +kernel
theorem dL_areRight_94 : decode cL_areRight 94 = .ok (.invokestatic 33, 3) := by decide +kernel
theorem dL_areRight_97 : decode cL_areRight 97 = .ok (.ifCond .le 7, 3) := by decide +kernel
theorem dL_areRight_100 : decode cL_areRight 100 = .ok (.iconst 1, 1) := by decide +kernel
theorem dL_areRight_101 : decode cL_areRight 101 = .ok (.goto 4, 3) := by decide +kernel
theorem dL_areRight_104 : decode cL_areRight 104 = .ok (.iconst 0, 1) := by decide +kernel
theorem dL_areRight_105 : decode cL_areRight 105 = .ok (.iadd, 1) := by decide +kernel
theorem dL_areRight_106 : decode cL_areRight 106 = .ok (.istore 5, 2) := by decide +kernel
theorem dL_areRight_108 : decode cL_areRight 108 = .ok (.iinc 6 1, 3) := by decide +kernel
theorem dL_areRight_111 : decode cL_areRight 111 = .ok (.goto (-32), 3) := by decide +kernel
theorem dL_areRight_114 : decode cL_areRight 114 = .ok (.iload_n 1, 1) := by decide +kernel
theorem dL_areRight_115 : decode cL_areRight 115 = .ok (.iconst 2, 1) := by decide +kernel
theorem dL_areRight_116 : decode cL_areRight 116 = .ok (.aload_n 0, 1) := by decide +kernel
theorem dL_areRight_117 : decode cL_areRight 117 = .ok (.bipush 6, 2) := by decide +kernel
theorem dL_areRight_119 : decode cL_areRight 119 = .ok (.invokevirtual 23, 3) := by decide +kernel
theorem dL_areRight_122 : decode cL_areRight 122 = .ok (.imul, 1) := by decide +kernel
theorem dL_areRight_123 : decode cL_areRight 123 = .ok (.if_icmp .ne 38, 3) := by decide +kernel
theorem dL_areRight_126 : decode cL_areRight 126 = .ok (.iload_n 2, 1) := by decide +kernel
theorem dL_areRight_127 : decode cL_areRight 127 = .ok (.aload_n 0, 1) := by decide +kernel
theorem dL_areRight_128 : decode cL_areRight 128 = .ok (.bipush 7, 2) := by decide +kernel
theorem dL_areRight_130 : decode cL_areRight 130 = .ok (.invokevirtual 23, 3) := by decide +kernel
theorem dL_areRight_133 : decode cL_areRight 133 = .ok (.if_icmp .ne 28, 3) := by decide +kernel
theorem dL_areRight_136 : decode cL_areRight 136 = .ok (.iload_n 3, 1) := by decide +kernel
theorem dL_areRight_137 : decode cL_areRight 137 = .ok (.ifCond .ne 24, 3) := by decide +kernel
theorem dL_areRight_140 : decode cL_areRight 140 = .ok (.iload 4, 2) := by decide +kernel
theorem dL_areRight_142 : decode cL_areRight 142 = .ok (.aload_n 0, 1) := by decide +kernel
theorem dL_areRight_143 : decode cL_areRight 143 = .ok (.iconst 1, 1) := by decide +kernel
theorem dL_areRight_144 : decode cL_areRight 144 = .ok (.invokevirtual 23, 3) := by decide +kernel
theorem dL_areRight_147 : decode cL_areRight 147 = .ok (.if_icmp .ne 14, 3) := by decide +kernel
theorem dL_areRight_150 : decode cL_areRight 150 = .ok (.iload 5, 2) := by decide +kernel
theorem dL_areRight_152 : decode cL_areRight 152 = .ok (.iload 4, 2) := by decide +kernel
theorem dL_areRight_154 : decode cL_areRight 154 = .ok (.if_icmp .ne 7, 3) := by decide +kernel
theorem dL_areRight_157 : decode cL_areRight 157 = .ok (.iconst 1, 1) := by decide +kernel
theorem dL_areRight_158 : decode cL_areRight 158 = .ok (.goto 4, 3) := by decide +kernel
theorem dL_areRight_161 : decode cL_areRight 161 = .ok (.iconst 0, 1) := by decide +kernel
theorem dL_areRight_162 : decode cL_areRight 162 = .ok (.ireturn, 1) := by decide +kernel
theorem dL_isUndone_0 : decode cL_isUndone 0 = .ok (.aload_n 0, 1) := by decide +kernel
theorem dL_isUndone_1 : decode cL_isUndone 1 = .ok (.invokestatic 94, 3) := by decide +kernel
theorem dL_isUndone_4 : decode cL_isUndone 4 = .ok (.lstore 7, 2) := by decide +kernel
theorem dL_isUndone_6 : decode cL_isUndone 6 = .ok (.aload_n 0, 1) := by decide +kernel
theorem dL_isUndone_7 : decode cL_isUndone 7 = .ok (.invokevirtual 98, 3) := by decide +kernel
theorem dL_isUndone_10 : decode cL_isUndone 10 = .ok (.pop, 1) := by decide +kernel
theorem dL_isUndone_11 : decode cL_isUndone 11 = .ok (.aload_n 0, 1) := by decide +kernel
theorem dL_isUndone_12 : decode cL_isUndone 12 = .ok (.invokestatic 94, 3) := by decide +kernel
theorem dL_isUndone_15 : decode cL_isUndone 15 = .ok (.lload 5, 2) := by decide +kernel
theorem dL_isUndone_17 : decode cL_isUndone 17 = .ok (.lcmp, 1) := by decide +kernel
theorem dL_isUndone_18 : decode cL_isUndone 18 = .ok (.ifCond .ne 29, 3) := by decide +kernel
theorem dL_isUndone_21 : decode cL_isUndone 21 = .ok (.aload_n 0, 1) := by decide +kernel
theorem dL_isUndone_22 : decode cL_isUndone 22 = .ok (.iload_n 1, 1) := by decide +kernel
theorem dL_isUndone_23 : decode cL_isUndone 23 = .ok (.iload_n 2, 1) := by decide +kernel
theorem dL_isUndone_24 : decode cL_isUndone 24 = .ok (.iload_n 3, 1) := by decide +kernel
theorem dL_isUndone_25 : decode cL_isUndone 25 = .ok (.invokestatic 101, 3) := by decide +kernel
theorem dL_isUndone_28 : decode cL_isUndone 28 = .ok (.iload 4, 2) := by decide +kernel
theorem dL_isUndone_30 : decode cL_isUndone 30 = .ok (.if_icmp .ne 17, 3) := by decide +kernel
theorem dL_isUndone_33 : decode cL_isUndone 33 = .ok (.aload_n 0, 1) := by decide +kernel
theorem dL_isUndone_34 : decode cL_isUndone 34 = .ok (.invokestatic 94, 3) := by decide +kernel
theorem dL_isUndone_37 : decode cL_isUndone 37 = .ok (.lload 7, 2) := by decide +kernel
theorem dL_isUndone_39 : decode cL_isUndone 39 = .ok (.lcmp, 1) := by decide +kernel
theorem dL_isUndone_40 : decode cL_isUndone 40 = .ok (.ifCond .ne 7, 3) := by decide +kernel
theorem dL_isUndone_43 : decode cL_isUndone 43 = .ok (.iconst 1, 1) := by decide +kernel
theorem dL_isUndone_44 : decode cL_isUndone 44 = .ok (.goto 4, 3) := by decide +kernel
theorem dL_isUndone_47 : decode cL_isUndone 47 = .ok (.iconst 0, 1) := by decide +kernel
theorem dL_isUndone_48 : decode cL_isUndone 48 = .ok (.ireturn, 1) := by decide +kernel
theorem dL_law_0 : decode cL_law 0 = .ok (.new 10, 3) := by decide +kernel
theorem dL_law_3 : decode cL_law 3 = .ok (.dup, 1) := by decide +kernel
theorem dL_law_4 : decode cL_law 4 = .ok (.invokespecial 104, 3) := by decide +kernel
theorem dL_law_7 : decode cL_law 7 = .ok (.astore_n 1, 1) := by decide +kernel
theorem dL_law_8 : decode cL_law 8 = .ok (.aload_n 0, 1) := by decide +kernel
theorem dL_law_9 : decode cL_law 9 = .ok (.arraylength, 1) := by decide +kernel
theorem dL_law_10 : decode cL_law 10 = .ok (.iconst 3, 1) := by decide +kernel
theorem dL_law_11 : decode cL_law 11 = .ok (.idiv, 1) := by decide +kernel
theorem dL_law_12 : decode cL_law 12 = .ok (.bipush 36, 2) := by decide +kernel
theorem dL_law_14 : decode cL_law 14 = .ok (.if_icmp .ge 10, 3) := by decide +kernel
theorem dL_law_17 : decode cL_law 17 = .ok (.aload_n 0, 1) := by decide +kernel
theorem dL_law_18 : decode cL_law 18 = .ok (.arraylength, 1) := by decide +kernel
theorem dL_law_19 : decode cL_law 19 = .ok (.iconst 3, 1) := by decide +kernel
theorem dL_law_20 : decode cL_law 20 = .ok (.idiv, 1) := by decide +kernel
theorem dL_law_21 : decode cL_law 21 = .ok (.goto 5, 3) := by decide +kernel
theorem dL_law_24 : decode cL_law 24 = .ok (.bipush 36, 2) := by decide +kernel
theorem dL_law_26 : decode cL_law 26 = .ok (.istore_n 2, 1) := by decide +kernel
theorem dL_law_27 : decode cL_law 27 = .ok (.iconst 0, 1) := by decide +kernel
theorem dL_law_28 : decode cL_law 28 = .ok (.istore_n 3, 1) := by decide +kernel
theorem dL_law_29 : decode cL_law 29 = .ok (.iconst 0, 1) := by decide +kernel
theorem dL_law_30 : decode cL_law 30 = .ok (.istore 4, 2) := by decide +kernel
theorem dL_law_32 : decode cL_law 32 = .ok (.iload 4, 2) := by decide +kernel
theorem dL_law_34 : decode cL_law 34 = .ok (.iload_n 2, 1) := by decide +kernel
theorem dL_law_35 : decode cL_law 35 = .ok (.if_icmp .ge 284, 3) := by decide +kernel
theorem dL_law_38 : decode cL_law 38 = .ok (.aload_n 0, 1) := by decide +kernel
theorem dL_law_39 : decode cL_law 39 = .ok (.iconst 3, 1) := by decide +kernel
theorem dL_law_40 : decode cL_law 40 = .ok (.iload 4, 2) := by decide +kernel
theorem dL_law_42 : decode cL_law 42 = .ok (.imul, 1) := by decide +kernel
theorem dL_law_43 : decode cL_law 43 = .ok (.invokestatic 105, 3) := by decide +kernel
theorem dL_law_46 : decode cL_law 46 = .ok (.istore 5, 2) := by decide +kernel
theorem dL_law_48 : decode cL_law 48 = .ok (.aload_n 0, 1) := by decide +kernel
theorem dL_law_49 : decode cL_law 49 = .ok (.iconst 3, 1) := by decide +kernel
theorem dL_law_50 : decode cL_law 50 = .ok (.iload 4, 2) := by decide +kernel
theorem dL_law_52 : decode cL_law 52 = .ok (.imul, 1) := by decide +kernel
theorem dL_law_53 : decode cL_law 53 = .ok (.iconst 1, 1) := by decide +kernel
theorem dL_law_54 : decode cL_law 54 = .ok (.iadd, 1) := by decide +kernel
theorem dL_law_55 : decode cL_law 55 = .ok (.invokestatic 105, 3) := by decide +kernel
theorem dL_law_58 : decode cL_law 58 = .ok (.istore 6, 2) := by decide +kernel
theorem dL_law_60 : decode cL_law 60 = .ok (.aload_n 0, 1) := by decide +kernel
theorem dL_law_61 : decode cL_law 61 = .ok (.iconst 3, 1) := by decide +kernel
theorem dL_law_62 : decode cL_law 62 = .ok (.iload 4, 2) := by decide +kernel
theorem dL_law_64 : decode cL_law 64 = .ok (.imul, 1) := by decide +kernel
theorem dL_law_65 : decode cL_law 65 = .ok (.iconst 2, 1) := by decide +kernel
theorem dL_law_66 : decode cL_law 66 = .ok (.iadd, 1) := by decide +kernel
theorem dL_law_67 : decode cL_law 67 = .ok (.invokestatic 105, 3) := by decide +kernel
theorem dL_law_70 : decode cL_law 70 = .ok (.istore 7, 2) := by decide +kernel
theorem dL_law_72 : decode cL_law 72 = .ok (.iload 4, 2) := by decide +kernel
theorem dL_law_74 : decode cL_law 74 = .ok (.iconst 3, 1) := by decide +kernel
theorem dL_law_75 : decode cL_law 75 = .ok (.if_icmp .ge 7, 3) := by decide +kernel
theorem dL_law_78 : decode cL_law 78 = .ok (.iconst 0, 1) := by decide +kernel
theorem dL_law_79 : decode cL_law 79 = .ok (.goto 8, 3) := by decide +kernel
theorem dL_law_82 : decode cL_law 82 = .ok (.iload 5, 2) := by decide +kernel
theorem dL_law_84 : decode cL_law 84 = .ok (.bipush 15, 2) := by decide +kernel
theorem dL_law_86 : decode cL_law 86 = .ok (.iand, 1) := by decide +kernel
theorem dL_law_87 : decode cL_law 87 = .ok (.istore 8, 2) := by decide +kernel
theorem dL_law_89 : decode cL_law 89 = .ok (.aload_n 1, 1) := by decide +kernel
theorem dL_law_90 : decode cL_law 90 = .ok (.invokestatic 94, 3) := by decide +kernel
theorem dL_law_93 : decode cL_law 93 = .ok (.lstore 9, 2) := by decide +kernel
theorem dL_law_95 : decode cL_law 95 = .ok (.aload_n 1, 1) := by decide +kernel
theorem dL_law_96 : decode cL_law 96 = .ok (.invokevirtual 109, 3) := by decide +kernel
theorem dL_law_99 : decode cL_law 99 = .ok (.lstore 11, 2) := by decide +kernel
theorem dL_law_101 : decode cL_law 101 = .ok (.aload_n 1, 1) := by decide +kernel
theorem dL_law_102 : decode cL_law 102 = .ok (.bipush 10, 2) := by decide +kernel
theorem dL_law_104 : decode cL_law 104 = .ok (.invokevirtual 23, 3) := by decide +kernel
theorem dL_law_107 : decode cL_law 107 = .ok (.istore 13, 2) := by decide +kernel
theorem dL_law_109 : decode cL_law 109 = .ok (.aload_n 1, 1) := by decide +kernel
theorem dL_law_110 : decode cL_law 110 = .ok (.iconst 1, 1) := by decide +kernel
theorem dL_law_111 : decode cL_law 111 = .ok (.invokevirtual 23, 3) := by decide +kernel
theorem dL_law_114 : decode cL_law 114 = .ok (.istore 14, 2) := by decide +kernel
theorem dL_law_116 : decode cL_law 116 = .ok (.aload_n 1, 1) := by decide +kernel
theorem dL_law_117 : decode cL_law 117 = .ok (.iload 8, 2) := by decide +kernel
theorem dL_law_119 : decode cL_law 119 = .ok (.iload 6, 2) := by decide +kernel
theorem dL_law_121 : decode cL_law 121 = .ok (.iload 4, 2) := by decide +kernel
theorem dL_law_123 : decode cL_law 123 = .ok (.iconst 2, 1) := by decide +kernel
theorem dL_law_124 : decode cL_law 124 = .ok (.if_icmp .ge 8, 3) := by decide +kernel
theorem dL_law_127 : decode cL_law 127 = .ok (.iload 4, 2) := by decide +kernel
theorem dL_law_129 : decode cL_law 129 = .ok (.goto 5, 3) := by decide +kernel
theorem dL_law_132 : decode cL_law 132 = .ok (.iload 7, 2) := by decide +kernel
theorem dL_law_134 : decode cL_law 134 = .ok (.invokestatic 101, 3) := by decide +kernel
theorem dL_law_137 : decode cL_law 137 = .ok (.istore 15, 2) := by decide +kernel
theorem dL_law_139 : decode cL_law 139 = .ok (.iload 15, 2) := by decide +kernel
theorem dL_law_141 : decode cL_law 141 = .ok (.ldc 91, 2) := by decide +kernel
theorem dL_law_143 : decode cL_law 143 = .ok (.if_icmp .eq 13, 3) := by decide +kernel
theorem dL_law_146 : decode cL_law 146 = .ok (.iload 8, 2) := by decide +kernel
theorem dL_law_148 : decode cL_law 148 = .ok (.iload 7, 2) := by decide +kernel
theorem dL_law_150 : decode cL_law 150 = .ok (.invokestatic 113, 3) := by decide +kernel
theorem dL_law_153 : decode cL_law 153 = .ok (.ifCond .ne 25, 3) := by decide +kernel
theorem dL_law_156 : decode cL_law 156 = .ok (.aload_n 1, 1) := by decide +kernel
theorem dL_law_157 : decode cL_law 157 = .ok (.invokestatic 94, 3) := by decide +kernel
theorem dL_law_160 : decode cL_law 160 = .ok (.lload 9, 2) := by decide +kernel
theorem dL_law_162 : decode cL_law 162 = .ok (.lcmp, 1) := by decide +kernel
theorem dL_law_163 : decode cL_law 163 = .ok (.ifCond .ne 13, 3) := by decide +kernel
theorem dL_law_166 : decode cL_law 166 = .ok (.aload_n 1, 1) := by decide +kernel
theorem dL_law_167 : decode cL_law 167 = .ok (.invokevirtual 109, 3) := by decide +kernel
theorem dL_law_170 : decode cL_law 170 = .ok (.lload 11, 2) := by decide +kernel
theorem dL_law_172 : decode cL_law 172 = .ok (.lcmp, 1) := by decide +kernel
theorem dL_law_173 : decode cL_law 173 = .ok (.ifCond .eq 109, 3) := by decide +kernel
theorem dL_law_176 : decode cL_law 176 = .ok (.iconst 0, 1) := by decide +kernel
theorem dL_law_177 : decode cL_law 177 = .ok (.ireturn, 1) := by decide +kernel
theorem dL_law_178 : decode cL_law 178 = .ok (.iload_n 3, 1) := by decide +kernel
theorem dL_law_179 : decode cL_law 179 = .ok (.iload 8, 2) := by decide +kernel
theorem dL_law_181 : decode cL_law 181 = .ok (.bipush 9, 2) := by decide +kernel
theorem dL_law_183 : decode cL_law 183 = .ok (.if_icmp .ne 7, 3) := by decide +kernel
theorem dL_law_186 : decode cL_law 186 = .ok (.iconst 1, 1) := by decide +kernel
theorem dL_law_187 : decode cL_law 187 = .ok (.goto 4, 3) := by decide +kernel
theorem dL_law_190 : decode cL_law 190 = .ok (.iconst 0, 1) := by decide +kernel
theorem dL_law_191 : decode cL_law 191 = .ok (.iadd, 1) := by decide +kernel
theorem dL_law_192 : decode cL_law 192 = .ok (.istore_n 3, 1) := by decide +kernel
theorem dL_law_193 : decode cL_law 193 = .ok (.iload 5, 2) := by decide +kernel
theorem dL_law_195 : decode cL_law 195 = .ok (.bipush 16, 2) := by decide +kernel
theorem dL_law_197 : decode cL_law 197 = .ok (.iand, 1) := by decide +kernel
theorem dL_law_198 : decode cL_law 198 = .ok (.ifCond .ne 33, 3) := by decide +kernel
theorem dL_law_201 : decode cL_law 201 = .ok (.aload_n 1, 1) := by decide +kernel
theorem dL_law_202 : decode cL_law 202 = .ok (.iload 8, 2) := by decide +kernel
theorem dL_law_204 : decode cL_law 204 = .ok (.iload 6, 2) := by decide +kernel
theorem dL_law_206 : decode cL_law 206 = .ok (.iload 4, 2) := by decide +kernel
theorem dL_law_208 : decode cL_law 208 = .ok (.iconst 2, 1) := by decide +kernel
theorem dL_law_209 : decode cL_law 209 = .ok (.if_icmp .ge 8, 3) := by decide +kernel
theorem dL_law_212 : decode cL_law 212 = .ok (.iload 4, 2) := by decide +kernel
theorem dL_law_214 : decode cL_law 214 = .ok (.goto 5, 3) := by decide +kernel
theorem dL_law_217 : decode cL_law 217 = .ok (.iload 7, 2) := by decide +kernel
theorem dL_law_219 : decode cL_law 219 = .ok (.iload 15, 2) := by decide +kernel
theorem dL_law_221 : decode cL_law 221 = .ok (.lload 9, 2) := by decide +kernel
theorem dL_law_223 : decode cL_law 223 = .ok (.invokestatic 117, 3) := by decide +kernel
theorem dL_law_226 : decode cL_law 226 = .ok (.ifCond .ne 5, 3) := by decide +kernel
theorem dL_law_229 : decode cL_law 229 = .ok (.iconst 0, 1) := by decide +kernel
theorem dL_law_230 : decode cL_law 230 = .ok (.ireturn, 1) := by decide +kernel
theorem dL_law_231 : decode cL_law 231 = .ok (.iload 8, 2) := by decide +kernel
theorem dL_law_233 : decode cL_law 233 = .ok (.bipush 10, 2) := by decide +kernel
theorem dL_law_235 : decode cL_law 235 = .ok (.if_icmp .eq 21, 3) := by decide +kernel
theorem dL_law_238 : decode cL_law 238 = .ok (.iload 8, 2) := by decide +kernel
theorem dL_law_240 : decode cL_law 240 = .ok (.bipush 11, 2) := by decide +kernel
theorem dL_law_242 : decode cL_law 242 = .ok (.if_icmp .eq 14, 3) := by decide +kernel
theorem dL_law_245 : decode cL_law 245 = .ok (.aload_n 1, 1) := by decide +kernel
theorem dL_law_246 : decode cL_law 246 = .ok (.bipush 10, 2) := by decide +kernel
theorem dL_law_248 : decode cL_law 248 = .ok (.invokevirtual 23, 3) := by decide +kernel
theorem dL_law_251 : decode cL_law 251 = .ok (.iload 13, 2) := by decide +kernel
theorem dL_law_253 : decode cL_law 253 = .ok (.if_icmp .ne 27, 3) := by decide +kernel
theorem dL_law_256 : decode cL_law 256 = .ok (.iload 8, 2) := by decide +kernel
theorem dL_law_258 : decode cL_law 258 = .ok (.bipush 9, 2) := by decide +kernel
theorem dL_law_260 : decode cL_law 260 = .ok (.if_icmp .le 22, 3) := by decide +kernel
theorem dL_law_263 : decode cL_law 263 = .ok (.iload 8, 2) := by decide +kernel
theorem dL_law_265 : decode cL_law 265 = .ok (.bipush 12, 2) := by decide +kernel
theorem dL_law_267 : decode cL_law 267 = .ok (.if_icmp .ge 15, 3) := by decide +kernel
theorem dL_law_270 : decode cL_law 270 = .ok (.aload_n 1, 1) := by decide +kernel
theorem dL_law_271 : decode cL_law 271 = .ok (.iconst 1, 1) := by decide +kernel
theorem dL_law_272 : decode cL_law 272 = .ok (.invokevirtual 23, 3) := by decide +kernel
theorem dL_law_275 : decode cL_law 275 = .ok (.iload 14, 2) := by decide +kernel
theorem dL_law_277 : decode cL_law 277 = .ok (.if_icmp .le 5, 3) := by decide +kernel
theorem dL_law_280 : decode cL_law 280 = .ok (.iconst 0, 1) := by decide +kernel
theorem dL_law_281 : decode cL_law 281 = .ok (.ireturn, 1) := by decide +kernel
theorem dL_law_282 : decode cL_law 282 = .ok (.aload_n 1, 1) := by decide +kernel
theorem dL_law_283 : decode cL_law 283 = .ok (.invokestatic 121, 3) := by decide +kernel
theorem dL_law_286 : decode cL_law 286 = .ok (.ifCond .eq 25, 3) := by decide +kernel
theorem dL_law_289 : decode cL_law 289 = .ok (.aload_n 1, 1) := by decide +kernel
theorem dL_law_290 : decode cL_law 290 = .ok (.iconst 1, 1) := by decide +kernel
theorem dL_law_291 : decode cL_law 291 = .ok (.invokevirtual 23, 3) := by decide +kernel
theorem dL_law_294 : decode cL_law 294 = .ok (.iload_n 3, 1) := by decide +kernel
theorem dL_law_295 : decode cL_law 295 = .ok (.iadd, 1) := by decide +kernel
theorem dL_law_296 : decode cL_law 296 = .ok (.aload_n 1, 1) := by decide +kernel
theorem dL_law_297 : decode cL_law 297 = .ok (.bipush 10, 2) := by decide +kernel
theorem dL_law_299 : decode cL_law 299 = .ok (.invokevirtual 23, 3) := by decide +kernel
theorem dL_law_302 : decode cL_law 302 = .ok (.iadd, 1) := by decide +kernel
theorem dL_law_303 : decode cL_law 303 = .ok (.aload_n 1, 1) := by decide +kernel
theorem dL_law_304 : decode cL_law 304 = .ok (.iconst 5, 1) := by decide +kernel
theorem dL_law_305 : decode cL_law 305 = .ok (.invokevirtual 23, 3) := by decide +kernel
theorem dL_law_308 : decode cL_law 308 = .ok (.if_icmp .le 5, 3) := by decide +kernel
theorem dL_law_311 : decode cL_law 311 = .ok (.iconst 0, 1) := by decide +kernel
theorem dL_law_312 : decode cL_law 312 = .ok (.ireturn, 1) := by decide +kernel
theorem dL_law_313 : decode cL_law 313 = .ok (.iinc 4 1, 3) := by decide +kernel
theorem dL_law_316 : decode cL_law 316 = .ok (.goto (-284), 3) := by decide +kernel
theorem dL_law_319 : decode cL_law 319 = .ok (.iconst 1, 1) := by decide +kernel
theorem dL_law_320 : decode cL_law 320 = .ok (.ireturn, 1) := by decide +kernel
abbrev vwCl : List vw_C := [(RX1, TX1, 11), (RX2, TX2, 12), (RX3, TX3, 6), (RX4, TX4, 7), (RX5, TX5, 1), (RX6, TX6, 8), (RX7, TX7, 6), (RX8, TX8, 3), (RX10, TX10, 5)]
/-- the tables' words that hold in every later state -/
def TBL : List Cond := lw_tbl.filter goodWord
theorem tb_at {w : Cond} (i : Nat) (h : lw_tbl[i]? = some w) (g : goodWord w = true) : w ∈ TBL := List.mem_filter.mpr ⟨List.mem_of_getElem? h, g⟩
theorem tb_in {w : Cond} (h : w ∈ TBL) : w ∈ lw_tbl := (List.mem_filter.mp h).1
theorem tb_good {w : Cond} (h : w ∈ TBL) : goodWord w = true := (List.mem_filter.mp h).2
theorem q_0 : (.selects "java/lang/Throwable" ⟨"java/lang/Throwable", "fillInStackTrace", "(I)Ljava/lang/Throwable;"⟩ ⟨"java/lang/Throwable", "fillInStackTrace", "(I)Ljava/lang/Throwable;"⟩ : Cond) ∈ TBL := tb_at 0 (by decide +kernel) (by decide +kernel)
theorem q_1 : (.selects RX10 yX10_wholeValue yX10_wholeValue : Cond) ∈ TBL := tb_at 1 (by decide +kernel) (by decide +kernel)
theorem q_2 : (.selects RX2 yX2_findRange yX2_findRange : Cond) ∈ TBL := tb_at 2 (by decide +kernel) (by decide +kernel)
theorem q_3 : (.selects RX2 yX2_tallyPrices yX2_tallyPrices : Cond) ∈ TBL := tb_at 3 (by decide +kernel) (by decide +kernel)
theorem q_4 : (.selects RX2 yX2_take yX2_take : Cond) ∈ TBL := tb_at 4 (by decide +kernel) (by decide +kernel)
theorem q_5 : (.selects RX2 yX2_sumSurplus yX2_sumSurplus : Cond) ∈ TBL := tb_at 5 (by decide +kernel) (by decide +kernel)
theorem q_6 : (.selects RX2 yX2_findGreatest yX2_findGreatest : Cond) ∈ TBL := tb_at 6 (by decide +kernel) (by decide +kernel)
theorem q_7 : (.selects RX2 yX2_tallyValues yX2_tallyValues : Cond) ∈ TBL := tb_at 7 (by decide +kernel) (by decide +kernel)
theorem q_8 : (.selects RX2 yX2_hundredthsOf yX2_hundredthsOf : Cond) ∈ TBL := tb_at 8 (by decide +kernel) (by decide +kernel)
theorem q_9 : (.selects RX10 yX10_mixTraders yX10_mixTraders : Cond) ∈ TBL := tb_at 9 (by decide +kernel) (by decide +kernel)
theorem q_10 : (.selects RX6 yX6_shadeOf yX6_shadeOf : Cond) ∈ TBL := tb_at 10 (by decide +kernel) (by decide +kernel)
theorem q_11 : (.selects RX10 yX10_mixOrders yX10_mixOrders : Cond) ∈ TBL := tb_at 11 (by decide +kernel) (by decide +kernel)
theorem q_12 : (.selects RX10 yX10_mixTrades yX10_mixTrades : Cond) ∈ TBL := tb_at 12 (by decide +kernel) (by decide +kernel)
theorem q_13 : (.selects RX8 yX8_placeOf yX8_placeOf : Cond) ∈ TBL := tb_at 13 (by decide +kernel) (by decide +kernel)
theorem q_14 : (.initialized RL : Cond) ∈ TBL := tb_at 14 (by decide +kernel) (by decide +kernel)
theorem q_15 : (.initialized RX10 : Cond) ∈ TBL := tb_at 15 (by decide +kernel) (by decide +kernel)
theorem q_16 : (.initialized RX1 : Cond) ∈ TBL := tb_at 16 (by decide +kernel) (by decide +kernel)
theorem q_17 : (.initialized RX6 : Cond) ∈ TBL := tb_at 17 (by decide +kernel) (by decide +kernel)
theorem q_18 : (.initialized RX5 : Cond) ∈ TBL := tb_at 18 (by decide +kernel) (by decide +kernel)
theorem q_19 : (.initialized RX4 : Cond) ∈ TBL := tb_at 19 (by decide +kernel) (by decide +kernel)
theorem q_20 : (.initialized RX7 : Cond) ∈ TBL := tb_at 20 (by decide +kernel) (by decide +kernel)
theorem q_21 : (.initialized RX2 : Cond) ∈ TBL := tb_at 21 (by decide +kernel) (by decide +kernel)
theorem q_22 : (.initialized RX8 : Cond) ∈ TBL := tb_at 22 (by decide +kernel) (by decide +kernel)
theorem q_23 : (.initialized RX3 : Cond) ∈ TBL := tb_at 23 (by decide +kernel) (by decide +kernel)
theorem q_24 : (.initialized "java/lang/Throwable" : Cond) ∈ TBL := tb_at 24 (by decide +kernel) (by decide +kernel)
theorem q_25 : (.initialized "java/lang/Exception" : Cond) ∈ TBL := tb_at 25 (by decide +kernel) (by decide +kernel)
theorem q_26 : (.initialized "java/lang/RuntimeException" : Cond) ∈ TBL := tb_at 26 (by decide +kernel) (by decide +kernel)
theorem q_27 : (.initialized "java/lang/IndexOutOfBoundsException" : Cond) ∈ TBL := tb_at 27 (by decide +kernel) (by decide +kernel)
theorem q_28 : (.initialized "java/lang/IllegalArgumentException" : Cond) ∈ TBL := tb_at 28 (by decide +kernel) (by decide +kernel)
theorem q_29 : (.initialized "java/lang/IllegalStateException" : Cond) ∈ TBL := tb_at 29 (by decide +kernel) (by decide +kernel)
theorem q_30 : (.initialized RJ9 : Cond) ∈ TBL := tb_at 30 (by decide +kernel) (by decide +kernel)
theorem q_31 : (.classLink RL 10 RX10 : Cond) ∈ TBL := tb_at 31 (by decide +kernel) (by decide +kernel)
theorem q_32 : (.instantiable RX10 5 : Cond) ∈ TBL := tb_at 32 (by decide +kernel) (by decide +kernel)
theorem q_33 : (.methodLink RL 104 yX10_init : Cond) ∈ TBL := tb_at 33 (by decide +kernel) (by decide +kernel)
theorem q_34 : (.instanceMethod yX10_init : Cond) ∈ TBL := tb_at 34 (by decide +kernel) (by decide +kernel)
theorem q_35 : (.code yX10_init cX10_init 1 Option.none : Cond) ∈ TBL := tb_at 35 (by decide +kernel) (by decide +kernel)
theorem q_36 : (.methodLink RX10 1 ⟨"java/lang/Object", "<init>", "()V"⟩ : Cond) ∈ TBL := tb_at 36 (by decide +kernel) (by decide +kernel)
theorem q_37 : (.instanceMethod ⟨"java/lang/Object", "<init>", "()V"⟩ : Cond) ∈ TBL := tb_at 37 (by decide +kernel) (by decide +kernel)
theorem q_38 : (.code ⟨"java/lang/Object", "<init>", "()V"⟩ object_method_1_code 1 Option.none : Cond) ∈ TBL := tb_at 38 (by decide +kernel) (by decide +kernel)
theorem q_39 : (.classLink RX10 7 RX1 : Cond) ∈ TBL := tb_at 39 (by decide +kernel) (by decide +kernel)
theorem q_40 : (.instantiable RX1 11 : Cond) ∈ TBL := tb_at 40 (by decide +kernel) (by decide +kernel)
theorem q_42 : (.instanceMethod yX1_init : Cond) ∈ TBL := tb_at 42 (by decide +kernel) (by decide +kernel)
theorem q_43 : (.code yX1_init cX1_init 1 Option.none : Cond) ∈ TBL := tb_at 43 (by decide +kernel) (by decide +kernel)
theorem q_44 : (.methodLink RX1 3 ⟨"java/lang/Object", "<init>", "()V"⟩ : Cond) ∈ TBL := tb_at 44 (by decide +kernel) (by decide +kernel)
theorem q_45 : (.classLink RX1 9 RX6 : Cond) ∈ TBL := tb_at 45 (by decide +kernel) (by decide +kernel)
theorem q_46 : (.instantiable RX6 8 : Cond) ∈ TBL := tb_at 46 (by decide +kernel) (by decide +kernel)
theorem q_48 : (.instanceMethod yX6_init : Cond) ∈ TBL := tb_at 48 (by decide +kernel) (by decide +kernel)
theorem q_49 : (.code yX6_init cX6_init 1 Option.none : Cond) ∈ TBL := tb_at 49 (by decide +kernel) (by decide +kernel)
theorem q_50 : (.methodLink RX6 3 ⟨"java/lang/Object", "<init>", "()V"⟩ : Cond) ∈ TBL := tb_at 50 (by decide +kernel) (by decide +kernel)
theorem q_51 : (.classLink RX6 9 RX5 : Cond) ∈ TBL := tb_at 51 (by decide +kernel) (by decide +kernel)
theorem q_52 : (.instantiable RX5 1 : Cond) ∈ TBL := tb_at 52 (by decide +kernel) (by decide +kernel)
theorem q_53 : (.methodLink RX6 11 yX5_init : Cond) ∈ TBL := tb_at 53 (by decide +kernel) (by decide +kernel)
theorem q_54 : (.instanceMethod yX5_init : Cond) ∈ TBL := tb_at 54 (by decide +kernel) (by decide +kernel)
theorem q_55 : (.code yX5_init cX5_init 2 Option.none : Cond) ∈ TBL := tb_at 55 (by decide +kernel) (by decide +kernel)
theorem q_56 : (.methodLink RX5 1 ⟨"java/lang/Object", "<init>", "()V"⟩ : Cond) ∈ TBL := tb_at 56 (by decide +kernel) (by decide +kernel)
theorem q_57 : (.fieldLink RX5 7 RX5 "cells" "[I" : Cond) ∈ TBL := tb_at 57 (by decide +kernel) (by decide +kernel)
theorem q_60 : (.superclass RX5 "java/lang/Object" : Cond) ∈ TBL := tb_at 60 (by decide +kernel) (by decide +kernel)
theorem q_61 : (.arrayClass FieldType.int : Cond) ∈ TBL := tb_at 61 (by decide +kernel) (by decide +kernel)
theorem q_62 : (.fieldLink RX6 38 RX6 "count" "I" : Cond) ∈ TBL := tb_at 62 (by decide +kernel) (by decide +kernel)
theorem q_63 : (.fieldLink RX1 46 RX6 "count" "I" : Cond) ∈ TBL := tb_at 63 (by decide +kernel) (by decide +kernel)
theorem q_64 : (.fieldLink RX10 238 RX6 "count" "I" : Cond) ∈ TBL := tb_at 64 (by decide +kernel) (by decide +kernel)
theorem q_65 : (.fieldLink RX6 14 RX6 "side" "LShadedBooks$Row;" : Cond) ∈ TBL := tb_at 65 (by decide +kernel) (by decide +kernel)
theorem q_66 : (.fieldLink RX1 67 RX6 "side" "LShadedBooks$Row;" : Cond) ∈ TBL := tb_at 66 (by decide +kernel) (by decide +kernel)
theorem q_67 : (.fieldLink RX6 20 RX6 "value" "LShadedBooks$Row;" : Cond) ∈ TBL := tb_at 67 (by decide +kernel) (by decide +kernel)
theorem q_68 : (.fieldLink RX10 64 RX6 "value" "LShadedBooks$Row;" : Cond) ∈ TBL := tb_at 68 (by decide +kernel) (by decide +kernel)
theorem q_69 : (.fieldLink RX1 138 RX6 "value" "LShadedBooks$Row;" : Cond) ∈ TBL := tb_at 69 (by decide +kernel) (by decide +kernel)
theorem q_70 : (.fieldLink RX2 155 RX6 "value" "LShadedBooks$Row;" : Cond) ∈ TBL := tb_at 70 (by decide +kernel) (by decide +kernel)
theorem q_71 : (.fieldLink RX6 23 RX6 "kind" "LShadedBooks$Row;" : Cond) ∈ TBL := tb_at 71 (by decide +kernel) (by decide +kernel)
theorem q_72 : (.fieldLink RX1 141 RX6 "kind" "LShadedBooks$Row;" : Cond) ∈ TBL := tb_at 72 (by decide +kernel) (by decide +kernel)
theorem q_73 : (.fieldLink RX6 26 RX6 "amount" "LShadedBooks$Row;" : Cond) ∈ TBL := tb_at 73 (by decide +kernel) (by decide +kernel)
theorem q_74 : (.fieldLink RX1 144 RX6 "amount" "LShadedBooks$Row;" : Cond) ∈ TBL := tb_at 74 (by decide +kernel) (by decide +kernel)
theorem q_75 : (.fieldLink RX6 29 RX6 "traded" "LShadedBooks$Row;" : Cond) ∈ TBL := tb_at 75 (by decide +kernel) (by decide +kernel)
theorem q_76 : (.fieldLink RX1 153 RX6 "traded" "LShadedBooks$Row;" : Cond) ∈ TBL := tb_at 76 (by decide +kernel) (by decide +kernel)
theorem q_77 : (.fieldLink RX6 32 RX6 "gains" "LShadedBooks$Row;" : Cond) ∈ TBL := tb_at 77 (by decide +kernel) (by decide +kernel)
theorem q_78 : (.fieldLink RX1 155 RX6 "gains" "LShadedBooks$Row;" : Cond) ∈ TBL := tb_at 78 (by decide +kernel) (by decide +kernel)
theorem q_79 : (.fieldLink RX6 35 RX6 "money" "LShadedBooks$Row;" : Cond) ∈ TBL := tb_at 79 (by decide +kernel) (by decide +kernel)
theorem q_80 : (.fieldLink RX1 158 RX6 "money" "LShadedBooks$Row;" : Cond) ∈ TBL := tb_at 80 (by decide +kernel) (by decide +kernel)
theorem q_97 : (.superclass RX6 "java/lang/Object" : Cond) ∈ TBL := tb_at 97 (by decide +kernel) (by decide +kernel)
theorem q_98 : (.classLink RX1 18 RX4 : Cond) ∈ TBL := tb_at 98 (by decide +kernel) (by decide +kernel)
theorem q_99 : (.instantiable RX4 7 : Cond) ∈ TBL := tb_at 99 (by decide +kernel) (by decide +kernel)
theorem q_101 : (.instanceMethod yX4_init : Cond) ∈ TBL := tb_at 101 (by decide +kernel) (by decide +kernel)
theorem q_102 : (.code yX4_init cX4_init 1 Option.none : Cond) ∈ TBL := tb_at 102 (by decide +kernel) (by decide +kernel)
theorem q_103 : (.methodLink RX4 3 ⟨"java/lang/Object", "<init>", "()V"⟩ : Cond) ∈ TBL := tb_at 103 (by decide +kernel) (by decide +kernel)
theorem q_104 : (.classLink RX4 9 RX5 : Cond) ∈ TBL := tb_at 104 (by decide +kernel) (by decide +kernel)
theorem q_105 : (.methodLink RX4 11 yX5_init : Cond) ∈ TBL := tb_at 105 (by decide +kernel) (by decide +kernel)
theorem q_106 : (.fieldLink RX4 35 RX4 "count" "I" : Cond) ∈ TBL := tb_at 106 (by decide +kernel) (by decide +kernel)
theorem q_107 : (.fieldLink RX2 101 RX4 "count" "I" : Cond) ∈ TBL := tb_at 107 (by decide +kernel) (by decide +kernel)
theorem q_108 : (.fieldLink RX1 118 RX4 "count" "I" : Cond) ∈ TBL := tb_at 108 (by decide +kernel) (by decide +kernel)
theorem q_109 : (.fieldLink RX10 239 RX4 "count" "I" : Cond) ∈ TBL := tb_at 109 (by decide +kernel) (by decide +kernel)
theorem q_110 : (.fieldLink RX4 14 RX4 "number" "LShadedBooks$Row;" : Cond) ∈ TBL := tb_at 110 (by decide +kernel) (by decide +kernel)
theorem q_111 : (.fieldLink RX7 36 RX4 "number" "LShadedBooks$Row;" : Cond) ∈ TBL := tb_at 111 (by decide +kernel) (by decide +kernel)
theorem q_112 : (.fieldLink RX10 240 RX4 "number" "LShadedBooks$Row;" : Cond) ∈ TBL := tb_at 112 (by decide +kernel) (by decide +kernel)
theorem q_113 : (.fieldLink RX4 20 RX4 "trader" "LShadedBooks$Row;" : Cond) ∈ TBL := tb_at 113 (by decide +kernel) (by decide +kernel)
theorem q_114 : (.fieldLink RX7 49 RX4 "trader" "LShadedBooks$Row;" : Cond) ∈ TBL := tb_at 114 (by decide +kernel) (by decide +kernel)
theorem q_115 : (.fieldLink RX2 104 RX4 "trader" "LShadedBooks$Row;" : Cond) ∈ TBL := tb_at 115 (by decide +kernel) (by decide +kernel)
theorem q_116 : (.fieldLink RX4 23 RX4 "side" "LShadedBooks$Row;" : Cond) ∈ TBL := tb_at 116 (by decide +kernel) (by decide +kernel)
theorem q_117 : (.fieldLink RX2 133 RX4 "side" "LShadedBooks$Row;" : Cond) ∈ TBL := tb_at 117 (by decide +kernel) (by decide +kernel)
theorem q_118 : (.fieldLink RX4 26 RX4 "price" "LShadedBooks$Row;" : Cond) ∈ TBL := tb_at 118 (by decide +kernel) (by decide +kernel)
theorem q_119 : (.fieldLink RX2 150 RX4 "price" "LShadedBooks$Row;" : Cond) ∈ TBL := tb_at 119 (by decide +kernel) (by decide +kernel)
theorem q_120 : (.fieldLink RX4 29 RX4 "units" "LShadedBooks$Row;" : Cond) ∈ TBL := tb_at 120 (by decide +kernel) (by decide +kernel)
theorem q_121 : (.fieldLink RX2 92 RX4 "units" "LShadedBooks$Row;" : Cond) ∈ TBL := tb_at 121 (by decide +kernel) (by decide +kernel)
theorem q_122 : (.fieldLink RX1 119 RX4 "units" "LShadedBooks$Row;" : Cond) ∈ TBL := tb_at 122 (by decide +kernel) (by decide +kernel)
theorem q_123 : (.fieldLink RX4 32 RX4 "round" "LShadedBooks$Row;" : Cond) ∈ TBL := tb_at 123 (by decide +kernel) (by decide +kernel)
theorem q_138 : (.superclass RX4 "java/lang/Object" : Cond) ∈ TBL := tb_at 138 (by decide +kernel) (by decide +kernel)
theorem q_139 : (.classLink RX1 25 RX7 : Cond) ∈ TBL := tb_at 139 (by decide +kernel) (by decide +kernel)
theorem q_140 : (.instantiable RX7 6 : Cond) ∈ TBL := tb_at 140 (by decide +kernel) (by decide +kernel)
theorem q_142 : (.instanceMethod yX7_init : Cond) ∈ TBL := tb_at 142 (by decide +kernel) (by decide +kernel)
theorem q_143 : (.code yX7_init cX7_init 1 Option.none : Cond) ∈ TBL := tb_at 143 (by decide +kernel) (by decide +kernel)
theorem q_144 : (.methodLink RX7 3 ⟨"java/lang/Object", "<init>", "()V"⟩ : Cond) ∈ TBL := tb_at 144 (by decide +kernel) (by decide +kernel)
theorem q_145 : (.classLink RX7 9 RX5 : Cond) ∈ TBL := tb_at 145 (by decide +kernel) (by decide +kernel)
theorem q_146 : (.methodLink RX7 11 yX5_init : Cond) ∈ TBL := tb_at 146 (by decide +kernel) (by decide +kernel)
theorem q_147 : (.fieldLink RX7 32 RX7 "count" "I" : Cond) ∈ TBL := tb_at 147 (by decide +kernel) (by decide +kernel)
theorem q_148 : (.fieldLink RX2 121 RX7 "count" "I" : Cond) ∈ TBL := tb_at 148 (by decide +kernel) (by decide +kernel)
theorem q_149 : (.fieldLink RX1 161 RX7 "count" "I" : Cond) ∈ TBL := tb_at 149 (by decide +kernel) (by decide +kernel)
theorem q_150 : (.fieldLink RX10 243 RX7 "count" "I" : Cond) ∈ TBL := tb_at 150 (by decide +kernel) (by decide +kernel)
theorem q_151 : (.fieldLink RX7 14 RX7 "bought" "LShadedBooks$Row;" : Cond) ∈ TBL := tb_at 151 (by decide +kernel) (by decide +kernel)
theorem q_152 : (.fieldLink RX7 20 RX7 "sold" "LShadedBooks$Row;" : Cond) ∈ TBL := tb_at 152 (by decide +kernel) (by decide +kernel)
theorem q_153 : (.fieldLink RX7 23 RX7 "units" "LShadedBooks$Row;" : Cond) ∈ TBL := tb_at 153 (by decide +kernel) (by decide +kernel)
theorem q_154 : (.fieldLink RX7 26 RX7 "buyer" "LShadedBooks$Row;" : Cond) ∈ TBL := tb_at 154 (by decide +kernel) (by decide +kernel)
theorem q_155 : (.fieldLink RX7 29 RX7 "seller" "LShadedBooks$Row;" : Cond) ∈ TBL := tb_at 155 (by decide +kernel) (by decide +kernel)
theorem q_168 : (.superclass RX7 "java/lang/Object" : Cond) ∈ TBL := tb_at 168 (by decide +kernel) (by decide +kernel)
theorem q_169 : (.fieldLink RX1 12 RX1 "traders" "LShadedBooks$Traders;" : Cond) ∈ TBL := tb_at 169 (by decide +kernel) (by decide +kernel)
theorem q_170 : (.fieldLink RX10 52 RX1 "traders" "LShadedBooks$Traders;" : Cond) ∈ TBL := tb_at 170 (by decide +kernel) (by decide +kernel)
theorem q_171 : (.fieldLink RX2 111 RX1 "traders" "LShadedBooks$Traders;" : Cond) ∈ TBL := tb_at 171 (by decide +kernel) (by decide +kernel)
theorem q_172 : (.fieldLink RX1 21 RX1 "orders" "LShadedBooks$Orders;" : Cond) ∈ TBL := tb_at 172 (by decide +kernel) (by decide +kernel)
theorem q_173 : (.fieldLink RX2 32 RX1 "orders" "LShadedBooks$Orders;" : Cond) ∈ TBL := tb_at 173 (by decide +kernel) (by decide +kernel)
theorem q_174 : (.fieldLink RX10 104 RX1 "orders" "LShadedBooks$Orders;" : Cond) ∈ TBL := tb_at 174 (by decide +kernel) (by decide +kernel)
theorem q_175 : (.fieldLink RX1 28 RX1 "trades" "LShadedBooks$Trades;" : Cond) ∈ TBL := tb_at 175 (by decide +kernel) (by decide +kernel)
theorem q_176 : (.fieldLink RX10 137 RX1 "trades" "LShadedBooks$Trades;" : Cond) ∈ TBL := tb_at 176 (by decide +kernel) (by decide +kernel)
theorem q_177 : (.fieldLink RX1 32 RX1 "split" "I" : Cond) ∈ TBL := tb_at 177 (by decide +kernel) (by decide +kernel)
theorem q_178 : (.fieldLink RX2 53 RX1 "split" "I" : Cond) ∈ TBL := tb_at 178 (by decide +kernel) (by decide +kernel)
theorem q_179 : (.fieldLink RX1 36 RX1 "life" "I" : Cond) ∈ TBL := tb_at 179 (by decide +kernel) (by decide +kernel)
theorem q_180 : (.fieldLink RX1 61 RX1 "round" "I" : Cond) ∈ TBL := tb_at 180 (by decide +kernel) (by decide +kernel)
theorem q_181 : (.fieldLink RX1 64 RX1 "placed" "I" : Cond) ∈ TBL := tb_at 181 (by decide +kernel) (by decide +kernel)
theorem q_182 : (.fieldLink RX1 94 RX1 "traded" "I" : Cond) ∈ TBL := tb_at 182 (by decide +kernel) (by decide +kernel)
theorem q_183 : (.fieldLink RX1 100 RX1 "surplus" "I" : Cond) ∈ TBL := tb_at 183 (by decide +kernel) (by decide +kernel)
theorem q_184 : (.fieldLink RX1 39 RX1 "lastPrice" "I" : Cond) ∈ TBL := tb_at 184 (by decide +kernel) (by decide +kernel)
theorem q_185 : (.fieldLink RX1 132 RX1 "expired" "I" : Cond) ∈ TBL := tb_at 185 (by decide +kernel) (by decide +kernel)
theorem q_208 : (.superclass RX1 "java/lang/Object" : Cond) ∈ TBL := tb_at 208 (by decide +kernel) (by decide +kernel)
theorem q_209 : (.classLink RX10 19 RX2 : Cond) ∈ TBL := tb_at 209 (by decide +kernel) (by decide +kernel)
theorem q_210 : (.instantiable RX2 12 : Cond) ∈ TBL := tb_at 210 (by decide +kernel) (by decide +kernel)
theorem q_212 : (.instanceMethod yX2_init : Cond) ∈ TBL := tb_at 212 (by decide +kernel) (by decide +kernel)
theorem q_213 : (.code yX2_init cX2_init 1 Option.none : Cond) ∈ TBL := tb_at 213 (by decide +kernel) (by decide +kernel)
theorem q_214 : (.methodLink RX2 3 ⟨"java/lang/Object", "<init>", "()V"⟩ : Cond) ∈ TBL := tb_at 214 (by decide +kernel) (by decide +kernel)
theorem q_215 : (.classLink RX2 9 RX5 : Cond) ∈ TBL := tb_at 215 (by decide +kernel) (by decide +kernel)
theorem q_216 : (.methodLink RX2 11 yX5_init : Cond) ∈ TBL := tb_at 216 (by decide +kernel) (by decide +kernel)
theorem q_217 : (.fieldLink RX2 77 RX2 "lowest" "I" : Cond) ∈ TBL := tb_at 217 (by decide +kernel) (by decide +kernel)
theorem q_218 : (.fieldLink RX2 80 RX2 "highest" "I" : Cond) ∈ TBL := tb_at 218 (by decide +kernel) (by decide +kernel)
theorem q_219 : (.fieldLink RX2 60 RX2 "price" "I" : Cond) ∈ TBL := tb_at 219 (by decide +kernel) (by decide +kernel)
theorem q_220 : (.fieldLink RX1 91 RX2 "price" "I" : Cond) ∈ TBL := tb_at 220 (by decide +kernel) (by decide +kernel)
theorem q_221 : (.fieldLink RX10 173 RX2 "price" "I" : Cond) ∈ TBL := tb_at 221 (by decide +kernel) (by decide +kernel)
theorem q_222 : (.fieldLink RX2 74 RX2 "volume" "I" : Cond) ∈ TBL := tb_at 222 (by decide +kernel) (by decide +kernel)
theorem q_223 : (.fieldLink RX1 97 RX2 "volume" "I" : Cond) ∈ TBL := tb_at 223 (by decide +kernel) (by decide +kernel)
theorem q_224 : (.fieldLink RX10 184 RX2 "volume" "I" : Cond) ∈ TBL := tb_at 224 (by decide +kernel) (by decide +kernel)
theorem q_225 : (.fieldLink RX2 71 RX2 "surplus" "I" : Cond) ∈ TBL := tb_at 225 (by decide +kernel) (by decide +kernel)
theorem q_226 : (.fieldLink RX1 103 RX2 "surplus" "I" : Cond) ∈ TBL := tb_at 226 (by decide +kernel) (by decide +kernel)
theorem q_227 : (.fieldLink RX2 14 RX2 "taken" "LShadedBooks$Row;" : Cond) ∈ TBL := tb_at 227 (by decide +kernel) (by decide +kernel)
theorem q_228 : (.fieldLink RX1 122 RX2 "taken" "LShadedBooks$Row;" : Cond) ∈ TBL := tb_at 228 (by decide +kernel) (by decide +kernel)
theorem q_229 : (.fieldLink RX10 159 RX2 "taken" "LShadedBooks$Row;" : Cond) ∈ TBL := tb_at 229 (by decide +kernel) (by decide +kernel)
theorem q_230 : (.fieldLink RX2 20 RX2 "buys" "LShadedBooks$Row;" : Cond) ∈ TBL := tb_at 230 (by decide +kernel) (by decide +kernel)
theorem q_231 : (.fieldLink RX2 23 RX2 "sells" "LShadedBooks$Row;" : Cond) ∈ TBL := tb_at 231 (by decide +kernel) (by decide +kernel)
theorem q_232 : (.fieldLink RX2 42 RX2 "buyCount" "I" : Cond) ∈ TBL := tb_at 232 (by decide +kernel) (by decide +kernel)
theorem q_233 : (.fieldLink RX2 46 RX2 "sellCount" "I" : Cond) ∈ TBL := tb_at 233 (by decide +kernel) (by decide +kernel)
theorem q_234 : (.fieldLink RX2 26 RX2 "wanted" "LShadedBooks$Row;" : Cond) ∈ TBL := tb_at 234 (by decide +kernel) (by decide +kernel)
theorem q_235 : (.fieldLink RX2 29 RX2 "offered" "LShadedBooks$Row;" : Cond) ∈ TBL := tb_at 235 (by decide +kernel) (by decide +kernel)
theorem q_260 : (.superclass RX2 "java/lang/Object" : Cond) ∈ TBL := tb_at 260 (by decide +kernel) (by decide +kernel)
theorem q_261 : (.classLink RX10 26 RX8 : Cond) ∈ TBL := tb_at 261 (by decide +kernel) (by decide +kernel)
theorem q_262 : (.instantiable RX8 3 : Cond) ∈ TBL := tb_at 262 (by decide +kernel) (by decide +kernel)
theorem q_263 : (.methodLink RX10 28 yX8_init : Cond) ∈ TBL := tb_at 263 (by decide +kernel) (by decide +kernel)
theorem q_264 : (.instanceMethod yX8_init : Cond) ∈ TBL := tb_at 264 (by decide +kernel) (by decide +kernel)
theorem q_265 : (.code yX8_init cX8_init 2 Option.none : Cond) ∈ TBL := tb_at 265 (by decide +kernel) (by decide +kernel)
theorem q_266 : (.methodLink RX8 3 ⟨"java/lang/Object", "<init>", "()V"⟩ : Cond) ∈ TBL := tb_at 266 (by decide +kernel) (by decide +kernel)
theorem q_267 : (.classLink RX8 9 RX1 : Cond) ∈ TBL := tb_at 267 (by decide +kernel) (by decide +kernel)
theorem q_270 : (.fieldLink RX8 18 RX8 "count" "I" : Cond) ∈ TBL := tb_at 270 (by decide +kernel) (by decide +kernel)
theorem q_271 : (.fieldLink RX10 214 RX8 "count" "I" : Cond) ∈ TBL := tb_at 271 (by decide +kernel) (by decide +kernel)
theorem q_272 : (.fieldLink RX8 22 RX8 "oldest" "I" : Cond) ∈ TBL := tb_at 272 (by decide +kernel) (by decide +kernel)
theorem q_273 : (.fieldLink RX8 11 RX8 "states" "[LShadedBooks$Auction;" : Cond) ∈ TBL := tb_at 273 (by decide +kernel) (by decide +kernel)
theorem q_280 : (.superclass RX8 "java/lang/Object" : Cond) ∈ TBL := tb_at 280 (by decide +kernel) (by decide +kernel)
theorem q_281 : (.classLink RX10 33 RX3 : Cond) ∈ TBL := tb_at 281 (by decide +kernel) (by decide +kernel)
theorem q_282 : (.instantiable RX3 6 : Cond) ∈ TBL := tb_at 282 (by decide +kernel) (by decide +kernel)
theorem q_284 : (.instanceMethod yX3_init : Cond) ∈ TBL := tb_at 284 (by decide +kernel) (by decide +kernel)
theorem q_285 : (.code yX3_init cX3_init 1 Option.none : Cond) ∈ TBL := tb_at 285 (by decide +kernel) (by decide +kernel)
theorem q_286 : (.methodLink RX3 3 ⟨"java/lang/Object", "<init>", "()V"⟩ : Cond) ∈ TBL := tb_at 286 (by decide +kernel) (by decide +kernel)
theorem q_287 : (.classLink RX3 9 RX5 : Cond) ∈ TBL := tb_at 287 (by decide +kernel) (by decide +kernel)
theorem q_288 : (.methodLink RX3 11 yX5_init : Cond) ∈ TBL := tb_at 288 (by decide +kernel) (by decide +kernel)
theorem q_289 : (.fieldLink RX10 265 RX3 "length" "I" : Cond) ∈ TBL := tb_at 289 (by decide +kernel) (by decide +kernel)
theorem q_290 : (.fieldLink RX3 14 RX3 "numbers" "LShadedBooks$Row;" : Cond) ∈ TBL := tb_at 290 (by decide +kernel) (by decide +kernel)
theorem q_291 : (.fieldLink RX3 20 RX3 "bytes" "LShadedBooks$Row;" : Cond) ∈ TBL := tb_at 291 (by decide +kernel) (by decide +kernel)
theorem q_292 : (.fieldLink RX3 23 RX3 "fault" "I" : Cond) ∈ TBL := tb_at 292 (by decide +kernel) (by decide +kernel)
theorem q_305 : (.superclass RX3 "java/lang/Object" : Cond) ∈ TBL := tb_at 305 (by decide +kernel) (by decide +kernel)
theorem q_306 : (.fieldLink RX10 10 RX10 "auction" "LShadedBooks$Auction;" : Cond) ∈ TBL := tb_at 306 (by decide +kernel) (by decide +kernel)
theorem q_307 : (.fieldLink RX10 16 RX10 "trial" "LShadedBooks$Auction;" : Cond) ∈ TBL := tb_at 307 (by decide +kernel) (by decide +kernel)
theorem q_308 : (.fieldLink RX10 22 RX10 "clearing" "LShadedBooks$Clearing;" : Cond) ∈ TBL := tb_at 308 (by decide +kernel) (by decide +kernel)
theorem q_309 : (.fieldLink RX10 29 RX10 "saved" "LShadedBooks$UndoStack;" : Cond) ∈ TBL := tb_at 309 (by decide +kernel) (by decide +kernel)
theorem q_310 : (.fieldLink RX10 36 RX10 "commands" "LShadedBooks$CommandText;" : Cond) ∈ TBL := tb_at 310 (by decide +kernel) (by decide +kernel)
theorem q_321 : (.superclass RX10 "java/lang/Object" : Cond) ∈ TBL := tb_at 321 (by decide +kernel) (by decide +kernel)
theorem q_322 : (.methodLink RL 23 yX10_whole : Cond) ∈ TBL := tb_at 322 (by decide +kernel) (by decide +kernel)
theorem q_323 : (.instanceMethod yX10_whole : Cond) ∈ TBL := tb_at 323 (by decide +kernel) (by decide +kernel)
theorem q_324 : (.selects RX10 yX10_whole yX10_whole : Cond) ∈ TBL := tb_at 324 (by decide +kernel) (by decide +kernel)
theorem q_325 : (.code yX10_whole cX10_whole 2 (Option.some FieldType.int) : Cond) ∈ TBL := tb_at 325 (by decide +kernel) (by decide +kernel)
theorem q_326 : (.methodLink RX10 125 yX10_faultOfWhat : Cond) ∈ TBL := tb_at 326 (by decide +kernel) (by decide +kernel)
theorem q_327 : (.static yX10_faultOfWhat : Cond) ∈ TBL := tb_at 327 (by decide +kernel) (by decide +kernel)
theorem q_328 : (.code yX10_faultOfWhat cX10_faultOfWhat 2 (Option.some FieldType.int) : Cond) ∈ TBL := tb_at 328 (by decide +kernel) (by decide +kernel)
theorem q_329 : (.methodLink RX10 261 yX10_isWithin : Cond) ∈ TBL := tb_at 329 (by decide +kernel) (by decide +kernel)
theorem q_330 : (.static yX10_isWithin : Cond) ∈ TBL := tb_at 330 (by decide +kernel) (by decide +kernel)
theorem q_331 : (.code yX10_isWithin cX10_isWithin 3 (Option.some FieldType.boolean) : Cond) ∈ TBL := tb_at 331 (by decide +kernel) (by decide +kernel)
theorem q_332 : (.methodLink RX10 44 yX10_refuse : Cond) ∈ TBL := tb_at 332 (by decide +kernel) (by decide +kernel)
theorem q_333 : (.static yX10_refuse : Cond) ∈ TBL := tb_at 333 (by decide +kernel) (by decide +kernel)
theorem q_334 : (.code yX10_refuse cX10_refuse 1 Option.none : Cond) ∈ TBL := tb_at 334 (by decide +kernel) (by decide +kernel)
theorem q_335 : (.classLink RX10 244 "java/lang/IndexOutOfBoundsException" : Cond) ∈ TBL := tb_at 335 (by decide +kernel) (by decide +kernel)
theorem q_336 : (.instantiable "java/lang/IndexOutOfBoundsException" 6 : Cond) ∈ TBL := tb_at 336 (by decide +kernel) (by decide +kernel)
theorem q_344 : (.selects "java/lang/IndexOutOfBoundsException" ⟨"java/lang/Throwable", "fillInStackTrace", "(I)Ljava/lang/Throwable;"⟩ ⟨"java/lang/Throwable", "fillInStackTrace", "(I)Ljava/lang/Throwable;"⟩ : Cond) ∈ TBL := tb_at 344 (by decide +kernel) (by decide +kernel)
theorem q_345 : (.selects "java/lang/IndexOutOfBoundsException" ⟨"java/lang/Throwable", "fillInStackTrace", "()Ljava/lang/Throwable;"⟩ ⟨"java/lang/Throwable", "fillInStackTrace", "()Ljava/lang/Throwable;"⟩ : Cond) ∈ TBL := tb_at 345 (by decide +kernel) (by decide +kernel)
theorem q_356 : (.fieldLink "java/lang/Throwable" 198 "java/lang/Throwable" "backtrace" "Ljava/lang/Object;" : Cond) ∈ TBL := tb_at 356 (by decide +kernel) (by decide +kernel)
theorem q_357 : (.superclass "java/lang/Throwable" "java/lang/Object" : Cond) ∈ TBL := tb_at 357 (by decide +kernel) (by decide +kernel)
theorem q_358 : (.instanceMethod ⟨"java/lang/Throwable", "<init>", "()V"⟩ : Cond) ∈ TBL := tb_at 358 (by decide +kernel) (by decide +kernel)
theorem q_359 : (.code ⟨"java/lang/Throwable", "<init>", "()V"⟩ prog_21_method_1_code 1 Option.none : Cond) ∈ TBL := tb_at 359 (by decide +kernel) (by decide +kernel)
theorem q_360 : (.methodLink "java/lang/Throwable" 1 ⟨"java/lang/Object", "<init>", "()V"⟩ : Cond) ∈ TBL := tb_at 360 (by decide +kernel) (by decide +kernel)
theorem q_361 : (.fieldLink "java/lang/Throwable" 13 "java/lang/Throwable" "UNASSIGNED_STACK" "[Ljava/lang/StackTraceElement;" : Cond) ∈ TBL := tb_at 361 (by decide +kernel) (by decide +kernel)
theorem q_363 : (.fieldLink "java/lang/Throwable" 20 "java/lang/Throwable" "SUPPRESSED_SENTINEL" "Ljava/util/List;" : Cond) ∈ TBL := tb_at 363 (by decide +kernel) (by decide +kernel)
theorem q_365 : (.methodLink "java/lang/Throwable" 27 ⟨"java/lang/Throwable", "fillInStackTrace", "()Ljava/lang/Throwable;"⟩ : Cond) ∈ TBL := tb_at 365 (by decide +kernel) (by decide +kernel)
theorem q_366 : (.instanceMethod ⟨"java/lang/Throwable", "fillInStackTrace", "()Ljava/lang/Throwable;"⟩ : Cond) ∈ TBL := tb_at 366 (by decide +kernel) (by decide +kernel)
theorem q_367 : (.sameMethod "java/lang/Throwable" "java/lang/Throwable" "fillInStackTrace" "()Ljava/lang/Throwable;" : Cond) ∈ TBL := tb_at 367 (by decide +kernel) (by decide +kernel)
theorem q_368 : (.selects "java/lang/IllegalArgumentException" ⟨"java/lang/Throwable", "fillInStackTrace", "()Ljava/lang/Throwable;"⟩ ⟨"java/lang/Throwable", "fillInStackTrace", "()Ljava/lang/Throwable;"⟩ : Cond) ∈ TBL := tb_at 368 (by decide +kernel) (by decide +kernel)
theorem q_369 : (.selects "java/lang/IllegalStateException" ⟨"java/lang/Throwable", "fillInStackTrace", "()Ljava/lang/Throwable;"⟩ ⟨"java/lang/Throwable", "fillInStackTrace", "()Ljava/lang/Throwable;"⟩ : Cond) ∈ TBL := tb_at 369 (by decide +kernel) (by decide +kernel)
theorem q_371 : (.methodLink "java/lang/Throwable" 202 ⟨"java/lang/Throwable", "fillInStackTrace", "(I)Ljava/lang/Throwable;"⟩ : Cond) ∈ TBL := tb_at 371 (by decide +kernel) (by decide +kernel)
theorem q_373 : (.instanceMethod ⟨"java/lang/Throwable", "fillInStackTrace", "(I)Ljava/lang/Throwable;"⟩ : Cond) ∈ TBL := tb_at 373 (by decide +kernel) (by decide +kernel)
theorem q_374 : (.instantiable "java/lang/Throwable" 6 : Cond) ∈ TBL := tb_at 374 (by decide +kernel) (by decide +kernel)
theorem q_377 : (.methodLink RX10 248 ⟨"java/lang/IndexOutOfBoundsException", "<init>", "(Ljava/lang/String;)V"⟩ : Cond) ∈ TBL := tb_at 377 (by decide +kernel) (by decide +kernel)
theorem q_378 : (.instanceMethod ⟨"java/lang/IndexOutOfBoundsException", "<init>", "(Ljava/lang/String;)V"⟩ : Cond) ∈ TBL := tb_at 378 (by decide +kernel) (by decide +kernel)
theorem q_379 : (.code ⟨"java/lang/IndexOutOfBoundsException", "<init>", "(Ljava/lang/String;)V"⟩ prog_17_method_2_code 2 Option.none : Cond) ∈ TBL := tb_at 379 (by decide +kernel) (by decide +kernel)
theorem q_380 : (.methodLink "java/lang/IndexOutOfBoundsException" 7 ⟨"java/lang/RuntimeException", "<init>", "(Ljava/lang/String;)V"⟩ : Cond) ∈ TBL := tb_at 380 (by decide +kernel) (by decide +kernel)
theorem q_381 : (.instanceMethod ⟨"java/lang/RuntimeException", "<init>", "(Ljava/lang/String;)V"⟩ : Cond) ∈ TBL := tb_at 381 (by decide +kernel) (by decide +kernel)
theorem q_382 : (.code ⟨"java/lang/RuntimeException", "<init>", "(Ljava/lang/String;)V"⟩ prog_19_method_2_code 2 Option.none : Cond) ∈ TBL := tb_at 382 (by decide +kernel) (by decide +kernel)
theorem q_383 : (.methodLink "java/lang/RuntimeException" 7 ⟨"java/lang/Exception", "<init>", "(Ljava/lang/String;)V"⟩ : Cond) ∈ TBL := tb_at 383 (by decide +kernel) (by decide +kernel)
theorem q_384 : (.instanceMethod ⟨"java/lang/Exception", "<init>", "(Ljava/lang/String;)V"⟩ : Cond) ∈ TBL := tb_at 384 (by decide +kernel) (by decide +kernel)
theorem q_385 : (.code ⟨"java/lang/Exception", "<init>", "(Ljava/lang/String;)V"⟩ prog_14_method_2_code 2 Option.none : Cond) ∈ TBL := tb_at 385 (by decide +kernel) (by decide +kernel)
theorem q_386 : (.methodLink "java/lang/Exception" 7 ⟨"java/lang/Throwable", "<init>", "(Ljava/lang/String;)V"⟩ : Cond) ∈ TBL := tb_at 386 (by decide +kernel) (by decide +kernel)
theorem q_387 : (.instanceMethod ⟨"java/lang/Throwable", "<init>", "(Ljava/lang/String;)V"⟩ : Cond) ∈ TBL := tb_at 387 (by decide +kernel) (by decide +kernel)
theorem q_388 : (.code ⟨"java/lang/Throwable", "<init>", "(Ljava/lang/String;)V"⟩ prog_21_method_2_code 2 Option.none : Cond) ∈ TBL := tb_at 388 (by decide +kernel) (by decide +kernel)
theorem q_390 : (.fieldLink "java/lang/Throwable" 31 "java/lang/Throwable" "detailMessage" "Ljava/lang/String;" : Cond) ∈ TBL := tb_at 390 (by decide +kernel) (by decide +kernel)
theorem q_391 : (.fieldLink "java/lang/Throwable" 7 "java/lang/Throwable" "cause" "Ljava/lang/Throwable;" : Cond) ∈ TBL := tb_at 391 (by decide +kernel) (by decide +kernel)
theorem q_392 : (.fieldLink "java/lang/Throwable" 17 "java/lang/Throwable" "stackTrace" "[Ljava/lang/StackTraceElement;" : Cond) ∈ TBL := tb_at 392 (by decide +kernel) (by decide +kernel)
theorem q_393 : (.fieldLink "java/lang/Throwable" 24 "java/lang/Throwable" "suppressedExceptions" "Ljava/util/List;" : Cond) ∈ TBL := tb_at 393 (by decide +kernel) (by decide +kernel)
theorem q_401 : (.superclass "java/lang/IndexOutOfBoundsException" "java/lang/RuntimeException" : Cond) ∈ TBL := tb_at 401 (by decide +kernel) (by decide +kernel)
theorem q_402 : (.arrayClass FieldType.byte : Cond) ∈ TBL := tb_at 402 (by decide +kernel) (by decide +kernel)
theorem q_403 : (.classLink RX10 251 "java/lang/IllegalArgumentException" : Cond) ∈ TBL := tb_at 403 (by decide +kernel) (by decide +kernel)
theorem q_404 : (.instantiable "java/lang/IllegalArgumentException" 6 : Cond) ∈ TBL := tb_at 404 (by decide +kernel) (by decide +kernel)
theorem q_406 : (.selects "java/lang/IllegalArgumentException" ⟨"java/lang/Throwable", "fillInStackTrace", "(I)Ljava/lang/Throwable;"⟩ ⟨"java/lang/Throwable", "fillInStackTrace", "(I)Ljava/lang/Throwable;"⟩ : Cond) ∈ TBL := tb_at 406 (by decide +kernel) (by decide +kernel)
theorem q_413 : (.methodLink RX10 255 ⟨"java/lang/IllegalArgumentException", "<init>", "(Ljava/lang/String;)V"⟩ : Cond) ∈ TBL := tb_at 413 (by decide +kernel) (by decide +kernel)
theorem q_414 : (.instanceMethod ⟨"java/lang/IllegalArgumentException", "<init>", "(Ljava/lang/String;)V"⟩ : Cond) ∈ TBL := tb_at 414 (by decide +kernel) (by decide +kernel)
theorem q_415 : (.code ⟨"java/lang/IllegalArgumentException", "<init>", "(Ljava/lang/String;)V"⟩ prog_15_method_2_code 2 Option.none : Cond) ∈ TBL := tb_at 415 (by decide +kernel) (by decide +kernel)
theorem q_416 : (.methodLink "java/lang/IllegalArgumentException" 7 ⟨"java/lang/RuntimeException", "<init>", "(Ljava/lang/String;)V"⟩ : Cond) ∈ TBL := tb_at 416 (by decide +kernel) (by decide +kernel)
theorem q_418 : (.superclass "java/lang/IllegalArgumentException" "java/lang/RuntimeException" : Cond) ∈ TBL := tb_at 418 (by decide +kernel) (by decide +kernel)
theorem q_419 : (.classLink RX10 256 "java/lang/IllegalStateException" : Cond) ∈ TBL := tb_at 419 (by decide +kernel) (by decide +kernel)
theorem q_420 : (.instantiable "java/lang/IllegalStateException" 6 : Cond) ∈ TBL := tb_at 420 (by decide +kernel) (by decide +kernel)
theorem q_422 : (.selects "java/lang/IllegalStateException" ⟨"java/lang/Throwable", "fillInStackTrace", "(I)Ljava/lang/Throwable;"⟩ ⟨"java/lang/Throwable", "fillInStackTrace", "(I)Ljava/lang/Throwable;"⟩ : Cond) ∈ TBL := tb_at 422 (by decide +kernel) (by decide +kernel)
theorem q_429 : (.methodLink RX10 260 ⟨"java/lang/IllegalStateException", "<init>", "(Ljava/lang/String;)V"⟩ : Cond) ∈ TBL := tb_at 429 (by decide +kernel) (by decide +kernel)
theorem q_430 : (.instanceMethod ⟨"java/lang/IllegalStateException", "<init>", "(Ljava/lang/String;)V"⟩ : Cond) ∈ TBL := tb_at 430 (by decide +kernel) (by decide +kernel)
theorem q_431 : (.code ⟨"java/lang/IllegalStateException", "<init>", "(Ljava/lang/String;)V"⟩ prog_16_method_2_code 2 Option.none : Cond) ∈ TBL := tb_at 431 (by decide +kernel) (by decide +kernel)
theorem q_432 : (.methodLink "java/lang/IllegalStateException" 7 ⟨"java/lang/RuntimeException", "<init>", "(Ljava/lang/String;)V"⟩ : Cond) ∈ TBL := tb_at 432 (by decide +kernel) (by decide +kernel)
theorem q_434 : (.superclass "java/lang/IllegalStateException" "java/lang/RuntimeException" : Cond) ∈ TBL := tb_at 434 (by decide +kernel) (by decide +kernel)
theorem q_435 : (.methodLink RX10 156 yX10_wholeValue : Cond) ∈ TBL := tb_at 435 (by decide +kernel) (by decide +kernel)
theorem q_437 : (.instanceMethod yX10_wholeValue : Cond) ∈ TBL := tb_at 437 (by decide +kernel) (by decide +kernel)
theorem q_438 : (.code yX10_wholeValue cX10_wholeValue 2 (Option.some FieldType.int) : Cond) ∈ TBL := tb_at 438 (by decide +kernel) (by decide +kernel)
theorem q_439 : (.methodLink RX10 268 yX1_wholeValue : Cond) ∈ TBL := tb_at 439 (by decide +kernel) (by decide +kernel)
theorem q_440 : (.instanceMethod yX1_wholeValue : Cond) ∈ TBL := tb_at 440 (by decide +kernel) (by decide +kernel)
theorem q_441 : (.selects RX1 yX1_wholeValue yX1_wholeValue : Cond) ∈ TBL := tb_at 441 (by decide +kernel) (by decide +kernel)
theorem q_442 : (.code yX1_wholeValue cX1_wholeValue 2 (Option.some FieldType.int) : Cond) ∈ TBL := tb_at 442 (by decide +kernel) (by decide +kernel)
theorem q_443 : (.methodLink RL 109 yX10_digest : Cond) ∈ TBL := tb_at 443 (by decide +kernel) (by decide +kernel)
theorem q_444 : (.instanceMethod yX10_digest : Cond) ∈ TBL := tb_at 444 (by decide +kernel) (by decide +kernel)
theorem q_445 : (.selects RX10 yX10_digest yX10_digest : Cond) ∈ TBL := tb_at 445 (by decide +kernel) (by decide +kernel)
theorem q_446 : (.code yX10_digest cX10_digest 4 (Option.some FieldType.long) : Cond) ∈ TBL := tb_at 446 (by decide +kernel) (by decide +kernel)
theorem q_447 : (.constantLong RX10 220 43616 : Cond) ∈ TBL := tb_at 447 (by decide +kernel) (by decide +kernel)
theorem q_448 : (.methodLink RX10 222 yX10_mix : Cond) ∈ TBL := tb_at 448 (by decide +kernel) (by decide +kernel)
theorem q_449 : (.static yX10_mix : Cond) ∈ TBL := tb_at 449 (by decide +kernel) (by decide +kernel)
theorem q_450 : (.code yX10_mix cX10_mix 4 (Option.some FieldType.long) : Cond) ∈ TBL := tb_at 450 (by decide +kernel) (by decide +kernel)
theorem q_451 : (.constantLong RX10 236 31 : Cond) ∈ TBL := tb_at 451 (by decide +kernel) (by decide +kernel)
theorem q_452 : (.methodLink RX10 150 yX2_settle : Cond) ∈ TBL := tb_at 452 (by decide +kernel) (by decide +kernel)
theorem q_453 : (.instanceMethod yX2_settle : Cond) ∈ TBL := tb_at 453 (by decide +kernel) (by decide +kernel)
theorem q_454 : (.selects RX2 yX2_settle yX2_settle : Cond) ∈ TBL := tb_at 454 (by decide +kernel) (by decide +kernel)
theorem q_455 : (.code yX2_settle cX2_settle 2 Option.none : Cond) ∈ TBL := tb_at 455 (by decide +kernel) (by decide +kernel)
theorem q_456 : (.methodLink RX2 38 yX2_queueUp : Cond) ∈ TBL := tb_at 456 (by decide +kernel) (by decide +kernel)
theorem q_457 : (.static yX2_queueUp : Cond) ∈ TBL := tb_at 457 (by decide +kernel) (by decide +kernel)
theorem q_458 : (.code yX2_queueUp cX2_queueUp 6 (Option.some FieldType.int) : Cond) ∈ TBL := tb_at 458 (by decide +kernel) (by decide +kernel)
theorem q_459 : (.methodLink RX2 89 yX5_get : Cond) ∈ TBL := tb_at 459 (by decide +kernel) (by decide +kernel)
theorem q_460 : (.instanceMethod yX5_get : Cond) ∈ TBL := tb_at 460 (by decide +kernel) (by decide +kernel)
theorem q_461 : (.selects RX5 yX5_get yX5_get : Cond) ∈ TBL := tb_at 461 (by decide +kernel) (by decide +kernel)
theorem q_462 : (.code yX5_get cX5_get 2 (Option.some FieldType.int) : Cond) ∈ TBL := tb_at 462 (by decide +kernel) (by decide +kernel)
theorem q_463 : (.methodLink RX2 136 yX4_isAhead : Cond) ∈ TBL := tb_at 463 (by decide +kernel) (by decide +kernel)
theorem q_464 : (.instanceMethod yX4_isAhead : Cond) ∈ TBL := tb_at 464 (by decide +kernel) (by decide +kernel)
theorem q_465 : (.selects RX4 yX4_isAhead yX4_isAhead : Cond) ∈ TBL := tb_at 465 (by decide +kernel) (by decide +kernel)
theorem q_466 : (.code yX4_isAhead cX4_isAhead 4 (Option.some FieldType.boolean) : Cond) ∈ TBL := tb_at 466 (by decide +kernel) (by decide +kernel)
theorem q_467 : (.methodLink RX4 39 yX5_get : Cond) ∈ TBL := tb_at 467 (by decide +kernel) (by decide +kernel)
theorem q_468 : (.methodLink RX2 139 yX5_put : Cond) ∈ TBL := tb_at 468 (by decide +kernel) (by decide +kernel)
theorem q_469 : (.instanceMethod yX5_put : Cond) ∈ TBL := tb_at 469 (by decide +kernel) (by decide +kernel)
theorem q_470 : (.selects RX5 yX5_put yX5_put : Cond) ∈ TBL := tb_at 470 (by decide +kernel) (by decide +kernel)
theorem q_471 : (.code yX5_put cX5_put 3 Option.none : Cond) ∈ TBL := tb_at 471 (by decide +kernel) (by decide +kernel)
theorem q_472 : (.methodLink RX2 49 yX2_findRange : Cond) ∈ TBL := tb_at 472 (by decide +kernel) (by decide +kernel)
theorem q_474 : (.instanceMethod yX2_findRange : Cond) ∈ TBL := tb_at 474 (by decide +kernel) (by decide +kernel)
theorem q_475 : (.code yX2_findRange cX2_findRange 6 Option.none : Cond) ∈ TBL := tb_at 475 (by decide +kernel) (by decide +kernel)
theorem q_476 : (.methodLink RX2 143 yX2_tallyPrices : Cond) ∈ TBL := tb_at 476 (by decide +kernel) (by decide +kernel)
theorem q_478 : (.instanceMethod yX2_tallyPrices : Cond) ∈ TBL := tb_at 478 (by decide +kernel) (by decide +kernel)
theorem q_479 : (.code yX2_tallyPrices cX2_tallyPrices 4 (Option.some FieldType.int) : Cond) ∈ TBL := tb_at 479 (by decide +kernel) (by decide +kernel)
theorem q_480 : (.methodLink RX2 147 yX5_fillWithZeros : Cond) ∈ TBL := tb_at 480 (by decide +kernel) (by decide +kernel)
theorem q_481 : (.instanceMethod yX5_fillWithZeros : Cond) ∈ TBL := tb_at 481 (by decide +kernel) (by decide +kernel)
theorem q_482 : (.selects RX5 yX5_fillWithZeros yX5_fillWithZeros : Cond) ∈ TBL := tb_at 482 (by decide +kernel) (by decide +kernel)
theorem q_483 : (.code yX5_fillWithZeros cX5_fillWithZeros 2 Option.none : Cond) ∈ TBL := tb_at 483 (by decide +kernel) (by decide +kernel)
theorem q_484 : (.methodLink RX2 152 yX5_add : Cond) ∈ TBL := tb_at 484 (by decide +kernel) (by decide +kernel)
theorem q_485 : (.instanceMethod yX5_add : Cond) ∈ TBL := tb_at 485 (by decide +kernel) (by decide +kernel)
theorem q_486 : (.selects RX5 yX5_add yX5_add : Cond) ∈ TBL := tb_at 486 (by decide +kernel) (by decide +kernel)
theorem q_487 : (.code yX5_add cX5_add 3 Option.none : Cond) ∈ TBL := tb_at 487 (by decide +kernel) (by decide +kernel)
theorem q_488 : (.methodLink RX2 124 yJ9_min_7cf53 : Cond) ∈ TBL := tb_at 488 (by decide +kernel) (by decide +kernel)
theorem q_489 : (.static yJ9_min_7cf53 : Cond) ∈ TBL := tb_at 489 (by decide +kernel) (by decide +kernel)
theorem q_490 : (.code yJ9_min_7cf53 cJ9_min_7cf53 2 (Option.some FieldType.int) : Cond) ∈ TBL := tb_at 490 (by decide +kernel) (by decide +kernel)
theorem q_491 : (.methodLink RX2 56 yX2_priceWith : Cond) ∈ TBL := tb_at 491 (by decide +kernel) (by decide +kernel)
theorem q_492 : (.instanceMethod yX2_priceWith : Cond) ∈ TBL := tb_at 492 (by decide +kernel) (by decide +kernel)
theorem q_493 : (.selects RX2 yX2_priceWith yX2_priceWith : Cond) ∈ TBL := tb_at 493 (by decide +kernel) (by decide +kernel)
theorem q_494 : (.code yX2_priceWith cX2_priceWith 2 (Option.some FieldType.int) : Cond) ∈ TBL := tb_at 494 (by decide +kernel) (by decide +kernel)
theorem q_495 : (.methodLink RX2 63 yX2_take : Cond) ∈ TBL := tb_at 495 (by decide +kernel) (by decide +kernel)
theorem q_497 : (.instanceMethod yX2_take : Cond) ∈ TBL := tb_at 497 (by decide +kernel) (by decide +kernel)
theorem q_498 : (.code yX2_take cX2_take 8 Option.none : Cond) ∈ TBL := tb_at 498 (by decide +kernel) (by decide +kernel)
theorem q_499 : (.methodLink RX2 67 yX2_sumSurplus : Cond) ∈ TBL := tb_at 499 (by decide +kernel) (by decide +kernel)
theorem q_501 : (.instanceMethod yX2_sumSurplus : Cond) ∈ TBL := tb_at 501 (by decide +kernel) (by decide +kernel)
theorem q_502 : (.code yX2_sumSurplus cX2_sumSurplus 5 (Option.some FieldType.int) : Cond) ∈ TBL := tb_at 502 (by decide +kernel) (by decide +kernel)
theorem q_503 : (.methodLink RX10 153 yX2_valueOf : Cond) ∈ TBL := tb_at 503 (by decide +kernel) (by decide +kernel)
theorem q_504 : (.instanceMethod yX2_valueOf : Cond) ∈ TBL := tb_at 504 (by decide +kernel) (by decide +kernel)
theorem q_505 : (.selects RX2 yX2_valueOf yX2_valueOf : Cond) ∈ TBL := tb_at 505 (by decide +kernel) (by decide +kernel)
theorem q_506 : (.code yX2_valueOf cX2_valueOf 3 (Option.some FieldType.int) : Cond) ∈ TBL := tb_at 506 (by decide +kernel) (by decide +kernel)
theorem q_507 : (.methodLink RX2 83 yX2_findGreatest : Cond) ∈ TBL := tb_at 507 (by decide +kernel) (by decide +kernel)
theorem q_509 : (.instanceMethod yX2_findGreatest : Cond) ∈ TBL := tb_at 509 (by decide +kernel) (by decide +kernel)
theorem q_510 : (.code yX2_findGreatest cX2_findGreatest 6 (Option.some FieldType.int) : Cond) ∈ TBL := tb_at 510 (by decide +kernel) (by decide +kernel)
theorem q_511 : (.methodLink RX2 158 yX2_tallyValues : Cond) ∈ TBL := tb_at 511 (by decide +kernel) (by decide +kernel)
theorem q_513 : (.instanceMethod yX2_tallyValues : Cond) ∈ TBL := tb_at 513 (by decide +kernel) (by decide +kernel)
theorem q_514 : (.code yX2_tallyValues cX2_tallyValues 5 Option.none : Cond) ∈ TBL := tb_at 514 (by decide +kernel) (by decide +kernel)
theorem q_515 : (.methodLink RX2 86 yX2_hundredthsOf : Cond) ∈ TBL := tb_at 515 (by decide +kernel) (by decide +kernel)
theorem q_517 : (.instanceMethod yX2_hundredthsOf : Cond) ∈ TBL := tb_at 517 (by decide +kernel) (by decide +kernel)
theorem q_518 : (.code yX2_hundredthsOf cX2_hundredthsOf 2 (Option.some FieldType.int) : Cond) ∈ TBL := tb_at 518 (by decide +kernel) (by decide +kernel)
theorem q_519 : (.methodLink RX10 226 yX10_mixTraders : Cond) ∈ TBL := tb_at 519 (by decide +kernel) (by decide +kernel)
theorem q_521 : (.instanceMethod yX10_mixTraders : Cond) ∈ TBL := tb_at 521 (by decide +kernel) (by decide +kernel)
theorem q_522 : (.code yX10_mixTraders cX10_mixTraders 7 (Option.some FieldType.long) : Cond) ∈ TBL := tb_at 522 (by decide +kernel) (by decide +kernel)
theorem q_523 : (.methodLink RX10 128 yX1_traderValue : Cond) ∈ TBL := tb_at 523 (by decide +kernel) (by decide +kernel)
theorem q_524 : (.instanceMethod yX1_traderValue : Cond) ∈ TBL := tb_at 524 (by decide +kernel) (by decide +kernel)
theorem q_525 : (.selects RX1 yX1_traderValue yX1_traderValue : Cond) ∈ TBL := tb_at 525 (by decide +kernel) (by decide +kernel)
theorem q_526 : (.code yX1_traderValue cX1_traderValue 3 (Option.some FieldType.int) : Cond) ∈ TBL := tb_at 526 (by decide +kernel) (by decide +kernel)
theorem q_527 : (.methodLink RX1 71 yX5_get : Cond) ∈ TBL := tb_at 527 (by decide +kernel) (by decide +kernel)
theorem q_528 : (.methodLink RX1 147 yX6_bidOf : Cond) ∈ TBL := tb_at 528 (by decide +kernel) (by decide +kernel)
theorem q_529 : (.instanceMethod yX6_bidOf : Cond) ∈ TBL := tb_at 529 (by decide +kernel) (by decide +kernel)
theorem q_530 : (.selects RX6 yX6_bidOf yX6_bidOf : Cond) ∈ TBL := tb_at 530 (by decide +kernel) (by decide +kernel)
theorem q_531 : (.code yX6_bidOf cX6_bidOf 2 (Option.some FieldType.int) : Cond) ∈ TBL := tb_at 531 (by decide +kernel) (by decide +kernel)
theorem q_532 : (.methodLink RX6 54 yX6_shadeOf : Cond) ∈ TBL := tb_at 532 (by decide +kernel) (by decide +kernel)
theorem q_534 : (.instanceMethod yX6_shadeOf : Cond) ∈ TBL := tb_at 534 (by decide +kernel) (by decide +kernel)
theorem q_535 : (.code yX6_shadeOf cX6_shadeOf 2 (Option.some FieldType.int) : Cond) ∈ TBL := tb_at 535 (by decide +kernel) (by decide +kernel)
theorem q_536 : (.methodLink RX6 62 yX5_get : Cond) ∈ TBL := tb_at 536 (by decide +kernel) (by decide +kernel)
theorem q_537 : (.methodLink RX6 58 yX6_bidWith : Cond) ∈ TBL := tb_at 537 (by decide +kernel) (by decide +kernel)
theorem q_538 : (.instanceMethod yX6_bidWith : Cond) ∈ TBL := tb_at 538 (by decide +kernel) (by decide +kernel)
theorem q_539 : (.selects RX6 yX6_bidWith yX6_bidWith : Cond) ∈ TBL := tb_at 539 (by decide +kernel) (by decide +kernel)
theorem q_540 : (.code yX6_bidWith cX6_bidWith 3 (Option.some FieldType.int) : Cond) ∈ TBL := tb_at 540 (by decide +kernel) (by decide +kernel)
theorem q_541 : (.methodLink RX6 65 yJ9_max_7cf53 : Cond) ∈ TBL := tb_at 541 (by decide +kernel) (by decide +kernel)
theorem q_542 : (.static yJ9_max_7cf53 : Cond) ∈ TBL := tb_at 542 (by decide +kernel) (by decide +kernel)
theorem q_543 : (.code yJ9_max_7cf53 cJ9_max_7cf53 2 (Option.some FieldType.int) : Cond) ∈ TBL := tb_at 543 (by decide +kernel) (by decide +kernel)
theorem q_544 : (.methodLink RX6 70 yJ9_min_7cf53 : Cond) ∈ TBL := tb_at 544 (by decide +kernel) (by decide +kernel)
theorem q_545 : (.methodLink RX1 150 yX4_countOf : Cond) ∈ TBL := tb_at 545 (by decide +kernel) (by decide +kernel)
theorem q_546 : (.instanceMethod yX4_countOf : Cond) ∈ TBL := tb_at 546 (by decide +kernel) (by decide +kernel)
theorem q_547 : (.selects RX4 yX4_countOf yX4_countOf : Cond) ∈ TBL := tb_at 547 (by decide +kernel) (by decide +kernel)
theorem q_548 : (.code yX4_countOf cX4_countOf 4 (Option.some FieldType.int) : Cond) ∈ TBL := tb_at 548 (by decide +kernel) (by decide +kernel)
theorem q_549 : (.methodLink RX1 112 yX4_unitsOf : Cond) ∈ TBL := tb_at 549 (by decide +kernel) (by decide +kernel)
theorem q_550 : (.instanceMethod yX4_unitsOf : Cond) ∈ TBL := tb_at 550 (by decide +kernel) (by decide +kernel)
theorem q_551 : (.selects RX4 yX4_unitsOf yX4_unitsOf : Cond) ∈ TBL := tb_at 551 (by decide +kernel) (by decide +kernel)
theorem q_552 : (.code yX4_unitsOf cX4_unitsOf 4 (Option.some FieldType.int) : Cond) ∈ TBL := tb_at 552 (by decide +kernel) (by decide +kernel)
theorem q_553 : (.methodLink RX10 230 yX10_mixOrders : Cond) ∈ TBL := tb_at 553 (by decide +kernel) (by decide +kernel)
theorem q_555 : (.instanceMethod yX10_mixOrders : Cond) ∈ TBL := tb_at 555 (by decide +kernel) (by decide +kernel)
theorem q_556 : (.code yX10_mixOrders cX10_mixOrders 7 (Option.some FieldType.long) : Cond) ∈ TBL := tb_at 556 (by decide +kernel) (by decide +kernel)
theorem q_557 : (.methodLink RX10 68 yX5_get : Cond) ∈ TBL := tb_at 557 (by decide +kernel) (by decide +kernel)
theorem q_558 : (.methodLink RX10 134 yX4_valueOf : Cond) ∈ TBL := tb_at 558 (by decide +kernel) (by decide +kernel)
theorem q_559 : (.instanceMethod yX4_valueOf : Cond) ∈ TBL := tb_at 559 (by decide +kernel) (by decide +kernel)
theorem q_560 : (.selects RX4 yX4_valueOf yX4_valueOf : Cond) ∈ TBL := tb_at 560 (by decide +kernel) (by decide +kernel)
theorem q_561 : (.code yX4_valueOf cX4_valueOf 3 (Option.some FieldType.int) : Cond) ∈ TBL := tb_at 561 (by decide +kernel) (by decide +kernel)
theorem q_562 : (.methodLink RX4 70 yX4_placeOf : Cond) ∈ TBL := tb_at 562 (by decide +kernel) (by decide +kernel)
theorem q_563 : (.instanceMethod yX4_placeOf : Cond) ∈ TBL := tb_at 563 (by decide +kernel) (by decide +kernel)
theorem q_564 : (.selects RX4 yX4_placeOf yX4_placeOf : Cond) ∈ TBL := tb_at 564 (by decide +kernel) (by decide +kernel)
theorem q_565 : (.code yX4_placeOf cX4_placeOf 4 (Option.some FieldType.int) : Cond) ∈ TBL := tb_at 565 (by decide +kernel) (by decide +kernel)
theorem q_566 : (.methodLink RX4 54 yX4_isAhead : Cond) ∈ TBL := tb_at 566 (by decide +kernel) (by decide +kernel)
theorem q_567 : (.methodLink RX10 233 yX10_mixTrades : Cond) ∈ TBL := tb_at 567 (by decide +kernel) (by decide +kernel)
theorem q_569 : (.instanceMethod yX10_mixTrades : Cond) ∈ TBL := tb_at 569 (by decide +kernel) (by decide +kernel)
theorem q_570 : (.code yX10_mixTrades cX10_mixTrades 7 (Option.some FieldType.long) : Cond) ∈ TBL := tb_at 570 (by decide +kernel) (by decide +kernel)
theorem q_571 : (.methodLink RX10 141 yX7_valueOf : Cond) ∈ TBL := tb_at 571 (by decide +kernel) (by decide +kernel)
theorem q_572 : (.instanceMethod yX7_valueOf : Cond) ∈ TBL := tb_at 572 (by decide +kernel) (by decide +kernel)
theorem q_573 : (.selects RX7 yX7_valueOf yX7_valueOf : Cond) ∈ TBL := tb_at 573 (by decide +kernel) (by decide +kernel)
theorem q_574 : (.code yX7_valueOf cX7_valueOf 3 (Option.some FieldType.int) : Cond) ∈ TBL := tb_at 574 (by decide +kernel) (by decide +kernel)
theorem q_575 : (.methodLink RX7 41 yX5_get : Cond) ∈ TBL := tb_at 575 (by decide +kernel) (by decide +kernel)
theorem q_576 : (.methodLink RL 105 yL_cell : Cond) ∈ TBL := tb_at 576 (by decide +kernel) (by decide +kernel)
theorem q_577 : (.static yL_cell : Cond) ∈ TBL := tb_at 577 (by decide +kernel) (by decide +kernel)
theorem q_578 : (.code yL_cell cL_cell 2 (Option.some FieldType.int) : Cond) ∈ TBL := tb_at 578 (by decide +kernel) (by decide +kernel)
theorem q_579 : (.constant RL 7 763049417 : Cond) ∈ TBL := tb_at 579 (by decide +kernel) (by decide +kernel)
theorem q_580 : (.methodLink RL 94 yL_view : Cond) ∈ TBL := tb_at 580 (by decide +kernel) (by decide +kernel)
theorem q_581 : (.static yL_view : Cond) ∈ TBL := tb_at 581 (by decide +kernel) (by decide +kernel)
theorem q_582 : (.code yL_view cL_view 6 (Option.some FieldType.long) : Cond) ∈ TBL := tb_at 582 (by decide +kernel) (by decide +kernel)
theorem q_583 : (.constantLong RL 19 7 : Cond) ∈ TBL := tb_at 583 (by decide +kernel) (by decide +kernel)
theorem q_584 : (.constantLong RL 21 31 : Cond) ∈ TBL := tb_at 584 (by decide +kernel) (by decide +kernel)
theorem q_585 : (.methodLink RL 27 yX10_now : Cond) ∈ TBL := tb_at 585 (by decide +kernel) (by decide +kernel)
theorem q_586 : (.instanceMethod yX10_now : Cond) ∈ TBL := tb_at 586 (by decide +kernel) (by decide +kernel)
theorem q_587 : (.selects RX10 yX10_now yX10_now : Cond) ∈ TBL := tb_at 587 (by decide +kernel) (by decide +kernel)
theorem q_588 : (.code yX10_now cX10_now 2 (Option.some FieldType.int) : Cond) ∈ TBL := tb_at 588 (by decide +kernel) (by decide +kernel)
theorem q_589 : (.methodLink RL 30 yX10_trader : Cond) ∈ TBL := tb_at 589 (by decide +kernel) (by decide +kernel)
theorem q_590 : (.instanceMethod yX10_trader : Cond) ∈ TBL := tb_at 590 (by decide +kernel) (by decide +kernel)
theorem q_591 : (.selects RX10 yX10_trader yX10_trader : Cond) ∈ TBL := tb_at 591 (by decide +kernel) (by decide +kernel)
theorem q_592 : (.code yX10_trader cX10_trader 3 (Option.some FieldType.int) : Cond) ∈ TBL := tb_at 592 (by decide +kernel) (by decide +kernel)
theorem q_593 : (.methodLink RX10 124 yX6_faultOfNumber : Cond) ∈ TBL := tb_at 593 (by decide +kernel) (by decide +kernel)
theorem q_594 : (.instanceMethod yX6_faultOfNumber : Cond) ∈ TBL := tb_at 594 (by decide +kernel) (by decide +kernel)
theorem q_595 : (.selects RX6 yX6_faultOfNumber yX6_faultOfNumber : Cond) ∈ TBL := tb_at 595 (by decide +kernel) (by decide +kernel)
theorem q_596 : (.code yX6_faultOfNumber cX6_faultOfNumber 2 (Option.some FieldType.int) : Cond) ∈ TBL := tb_at 596 (by decide +kernel) (by decide +kernel)
theorem q_597 : (.methodLink RX6 42 yX6_has : Cond) ∈ TBL := tb_at 597 (by decide +kernel) (by decide +kernel)
theorem q_598 : (.instanceMethod yX6_has : Cond) ∈ TBL := tb_at 598 (by decide +kernel) (by decide +kernel)
theorem q_599 : (.selects RX6 yX6_has yX6_has : Cond) ∈ TBL := tb_at 599 (by decide +kernel) (by decide +kernel)
theorem q_600 : (.code yX6_has cX6_has 2 (Option.some FieldType.boolean) : Cond) ∈ TBL := tb_at 600 (by decide +kernel) (by decide +kernel)
theorem q_601 : (.methodLink RL 33 yL_unitsOf : Cond) ∈ TBL := tb_at 601 (by decide +kernel) (by decide +kernel)
theorem q_602 : (.static yL_unitsOf : Cond) ∈ TBL := tb_at 602 (by decide +kernel) (by decide +kernel)
theorem q_603 : (.codeWith yL_unitsOf cL_unitsOf 3 (Option.some FieldType.int) [(0, 6, 7, 15), (0, 6, 10, 17)] : Cond) ∈ TBL := tb_at 603 (by decide +kernel) (by decide +kernel)
theorem q_604 : (.classLink RL 15 "java/lang/IndexOutOfBoundsException" : Cond) ∈ TBL := tb_at 604 (by decide +kernel) (by decide +kernel)
theorem q_605 : (.classLink RL 17 "java/lang/IllegalArgumentException" : Cond) ∈ TBL := tb_at 605 (by decide +kernel) (by decide +kernel)
theorem q_606 : (.methodLink RL 9 yX10_orderOf : Cond) ∈ TBL := tb_at 606 (by decide +kernel) (by decide +kernel)
theorem q_607 : (.instanceMethod yX10_orderOf : Cond) ∈ TBL := tb_at 607 (by decide +kernel) (by decide +kernel)
theorem q_608 : (.selects RX10 yX10_orderOf yX10_orderOf : Cond) ∈ TBL := tb_at 608 (by decide +kernel) (by decide +kernel)
theorem q_609 : (.code yX10_orderOf cX10_orderOf 3 (Option.some FieldType.int) : Cond) ∈ TBL := tb_at 609 (by decide +kernel) (by decide +kernel)
theorem q_610 : (.methodLink RX10 108 yX4_faultOfNumber : Cond) ∈ TBL := tb_at 610 (by decide +kernel) (by decide +kernel)
theorem q_611 : (.instanceMethod yX4_faultOfNumber : Cond) ∈ TBL := tb_at 611 (by decide +kernel) (by decide +kernel)
theorem q_612 : (.selects RX4 yX4_faultOfNumber yX4_faultOfNumber : Cond) ∈ TBL := tb_at 612 (by decide +kernel) (by decide +kernel)
theorem q_613 : (.code yX4_faultOfNumber cX4_faultOfNumber 2 (Option.some FieldType.int) : Cond) ∈ TBL := tb_at 613 (by decide +kernel) (by decide +kernel)
theorem q_614 : (.methodLink RX4 43 yX4_indexOf : Cond) ∈ TBL := tb_at 614 (by decide +kernel) (by decide +kernel)
theorem q_615 : (.instanceMethod yX4_indexOf : Cond) ∈ TBL := tb_at 615 (by decide +kernel) (by decide +kernel)
theorem q_616 : (.selects RX4 yX4_indexOf yX4_indexOf : Cond) ∈ TBL := tb_at 616 (by decide +kernel) (by decide +kernel)
theorem q_617 : (.code yX4_indexOf cX4_indexOf 3 (Option.some FieldType.int) : Cond) ∈ TBL := tb_at 617 (by decide +kernel) (by decide +kernel)
theorem q_618 : (.methodLink RX10 131 yX4_indexOf : Cond) ∈ TBL := tb_at 618 (by decide +kernel) (by decide +kernel)
theorem q_619 : (.methodLink RL 39 yX10_trade : Cond) ∈ TBL := tb_at 619 (by decide +kernel) (by decide +kernel)
theorem q_620 : (.instanceMethod yX10_trade : Cond) ∈ TBL := tb_at 620 (by decide +kernel) (by decide +kernel)
theorem q_621 : (.selects RX10 yX10_trade yX10_trade : Cond) ∈ TBL := tb_at 621 (by decide +kernel) (by decide +kernel)
theorem q_622 : (.code yX10_trade cX10_trade 3 (Option.some FieldType.int) : Cond) ∈ TBL := tb_at 622 (by decide +kernel) (by decide +kernel)
theorem q_623 : (.methodLink RL 113 yL_isAct : Cond) ∈ TBL := tb_at 623 (by decide +kernel) (by decide +kernel)
theorem q_624 : (.static yL_isAct : Cond) ∈ TBL := tb_at 624 (by decide +kernel) (by decide +kernel)
theorem q_625 : (.code yL_isAct cL_isAct 2 (Option.some FieldType.boolean) : Cond) ∈ TBL := tb_at 625 (by decide +kernel) (by decide +kernel)
theorem q_626 : (.methodLink RL 101 yL_tries : Cond) ∈ TBL := tb_at 626 (by decide +kernel) (by decide +kernel)
theorem q_627 : (.static yL_tries : Cond) ∈ TBL := tb_at 627 (by decide +kernel) (by decide +kernel)
theorem q_628 : (.codeWith yL_tries cL_tries 5 (Option.some FieldType.int) [(0, 7, 8, 15), (0, 7, 13, 17), (0, 7, 18, 92)] : Cond) ∈ TBL := tb_at 628 (by decide +kernel) (by decide +kernel)
theorem q_629 : (.classLink RL 92 "java/lang/IllegalStateException" : Cond) ∈ TBL := tb_at 629 (by decide +kernel) (by decide +kernel)
theorem q_630 : (.methodLink RL 87 yL_turn : Cond) ∈ TBL := tb_at 630 (by decide +kernel) (by decide +kernel)
theorem q_631 : (.static yL_turn : Cond) ∈ TBL := tb_at 631 (by decide +kernel) (by decide +kernel)
theorem q_632 : (.code yL_turn cL_turn 5 (Option.some FieldType.int) : Cond) ∈ TBL := tb_at 632 (by decide +kernel) (by decide +kernel)
theorem q_633 : (.methodLink RL 67 yL_up : Cond) ∈ TBL := tb_at 633 (by decide +kernel) (by decide +kernel)
theorem q_634 : (.static yL_up : Cond) ∈ TBL := tb_at 634 (by decide +kernel) (by decide +kernel)
theorem q_635 : (.code yL_up cL_up 2 (Option.some FieldType.int) : Cond) ∈ TBL := tb_at 635 (by decide +kernel) (by decide +kernel)
theorem q_636 : (.constant RL 8 2147483647 : Cond) ∈ TBL := tb_at 636 (by decide +kernel) (by decide +kernel)
theorem q_637 : (.methodLink RL 42 yX10_addTrader : Cond) ∈ TBL := tb_at 637 (by decide +kernel) (by decide +kernel)
theorem q_638 : (.instanceMethod yX10_addTrader : Cond) ∈ TBL := tb_at 638 (by decide +kernel) (by decide +kernel)
theorem q_639 : (.selects RX10 yX10_addTrader yX10_addTrader : Cond) ∈ TBL := tb_at 639 (by decide +kernel) (by decide +kernel)
theorem q_640 : (.code yX10_addTrader cX10_addTrader 3 (Option.some FieldType.int) : Cond) ∈ TBL := tb_at 640 (by decide +kernel) (by decide +kernel)
theorem q_641 : (.methodLink RX10 40 yX1_faultOfJoin : Cond) ∈ TBL := tb_at 641 (by decide +kernel) (by decide +kernel)
theorem q_642 : (.instanceMethod yX1_faultOfJoin : Cond) ∈ TBL := tb_at 642 (by decide +kernel) (by decide +kernel)
theorem q_643 : (.selects RX1 yX1_faultOfJoin yX1_faultOfJoin : Cond) ∈ TBL := tb_at 643 (by decide +kernel) (by decide +kernel)
theorem q_644 : (.code yX1_faultOfJoin cX1_faultOfJoin 3 (Option.some FieldType.int) : Cond) ∈ TBL := tb_at 644 (by decide +kernel) (by decide +kernel)
theorem q_646 : (.methodLink RX10 48 yX8_push : Cond) ∈ TBL := tb_at 646 (by decide +kernel) (by decide +kernel)
theorem q_647 : (.instanceMethod yX8_push : Cond) ∈ TBL := tb_at 647 (by decide +kernel) (by decide +kernel)
theorem q_648 : (.selects RX8 yX8_push yX8_push : Cond) ∈ TBL := tb_at 648 (by decide +kernel) (by decide +kernel)
theorem q_649 : (.code yX8_push cX8_push 3 Option.none : Cond) ∈ TBL := tb_at 649 (by decide +kernel) (by decide +kernel)
theorem q_650 : (.methodLink RX8 25 yJ9_floorMod_7cf53 : Cond) ∈ TBL := tb_at 650 (by decide +kernel) (by decide +kernel)
theorem q_651 : (.static yJ9_floorMod_7cf53 : Cond) ∈ TBL := tb_at 651 (by decide +kernel) (by decide +kernel)
theorem q_652 : (.code yJ9_floorMod_7cf53 cJ9_floorMod_7cf53 3 (Option.some FieldType.int) : Cond) ∈ TBL := tb_at 652 (by decide +kernel) (by decide +kernel)
theorem q_653 : (.methodLink RX8 31 yX8_placeOf : Cond) ∈ TBL := tb_at 653 (by decide +kernel) (by decide +kernel)
theorem q_655 : (.instanceMethod yX8_placeOf : Cond) ∈ TBL := tb_at 655 (by decide +kernel) (by decide +kernel)
theorem q_656 : (.code yX8_placeOf cX8_placeOf 3 (Option.some (FieldType.object RX1)) : Cond) ∈ TBL := tb_at 656 (by decide +kernel) (by decide +kernel)
theorem q_657 : (.methodLink RX8 35 yX1_copyFrom : Cond) ∈ TBL := tb_at 657 (by decide +kernel) (by decide +kernel)
theorem q_658 : (.instanceMethod yX1_copyFrom : Cond) ∈ TBL := tb_at 658 (by decide +kernel) (by decide +kernel)
theorem q_659 : (.selects RX1 yX1_copyFrom yX1_copyFrom : Cond) ∈ TBL := tb_at 659 (by decide +kernel) (by decide +kernel)
theorem q_660 : (.code yX1_copyFrom cX1_copyFrom 2 Option.none : Cond) ∈ TBL := tb_at 660 (by decide +kernel) (by decide +kernel)
theorem q_661 : (.methodLink RX1 162 yX6_copyFrom : Cond) ∈ TBL := tb_at 661 (by decide +kernel) (by decide +kernel)
theorem q_662 : (.instanceMethod yX6_copyFrom : Cond) ∈ TBL := tb_at 662 (by decide +kernel) (by decide +kernel)
theorem q_663 : (.selects RX6 yX6_copyFrom yX6_copyFrom : Cond) ∈ TBL := tb_at 663 (by decide +kernel) (by decide +kernel)
theorem q_664 : (.code yX6_copyFrom cX6_copyFrom 2 Option.none : Cond) ∈ TBL := tb_at 664 (by decide +kernel) (by decide +kernel)
theorem q_665 : (.methodLink RX6 79 yX5_copyFrom : Cond) ∈ TBL := tb_at 665 (by decide +kernel) (by decide +kernel)
theorem q_666 : (.instanceMethod yX5_copyFrom : Cond) ∈ TBL := tb_at 666 (by decide +kernel) (by decide +kernel)
theorem q_667 : (.selects RX5 yX5_copyFrom yX5_copyFrom : Cond) ∈ TBL := tb_at 667 (by decide +kernel) (by decide +kernel)
theorem q_668 : (.code yX5_copyFrom cX5_copyFrom 3 Option.none : Cond) ∈ TBL := tb_at 668 (by decide +kernel) (by decide +kernel)
theorem q_669 : (.methodLink RX5 13 yX5_get : Cond) ∈ TBL := tb_at 669 (by decide +kernel) (by decide +kernel)
theorem q_670 : (.methodLink RX1 166 yX4_copyFrom : Cond) ∈ TBL := tb_at 670 (by decide +kernel) (by decide +kernel)
theorem q_671 : (.instanceMethod yX4_copyFrom : Cond) ∈ TBL := tb_at 671 (by decide +kernel) (by decide +kernel)
theorem q_672 : (.selects RX4 yX4_copyFrom yX4_copyFrom : Cond) ∈ TBL := tb_at 672 (by decide +kernel) (by decide +kernel)
theorem q_673 : (.code yX4_copyFrom cX4_copyFrom 2 Option.none : Cond) ∈ TBL := tb_at 673 (by decide +kernel) (by decide +kernel)
theorem q_674 : (.methodLink RX4 73 yX5_copyFrom : Cond) ∈ TBL := tb_at 674 (by decide +kernel) (by decide +kernel)
theorem q_675 : (.methodLink RX1 169 yX7_copyFrom : Cond) ∈ TBL := tb_at 675 (by decide +kernel) (by decide +kernel)
theorem q_676 : (.instanceMethod yX7_copyFrom : Cond) ∈ TBL := tb_at 676 (by decide +kernel) (by decide +kernel)
theorem q_677 : (.selects RX7 yX7_copyFrom yX7_copyFrom : Cond) ∈ TBL := tb_at 677 (by decide +kernel) (by decide +kernel)
theorem q_678 : (.code yX7_copyFrom cX7_copyFrom 2 Option.none : Cond) ∈ TBL := tb_at 678 (by decide +kernel) (by decide +kernel)
theorem q_679 : (.methodLink RX7 52 yX5_copyFrom : Cond) ∈ TBL := tb_at 679 (by decide +kernel) (by decide +kernel)
theorem q_680 : (.methodLink RX10 56 yX6_join : Cond) ∈ TBL := tb_at 680 (by decide +kernel) (by decide +kernel)
theorem q_681 : (.instanceMethod yX6_join : Cond) ∈ TBL := tb_at 681 (by decide +kernel) (by decide +kernel)
theorem q_682 : (.selects RX6 yX6_join yX6_join : Cond) ∈ TBL := tb_at 682 (by decide +kernel) (by decide +kernel)
theorem q_683 : (.code yX6_join cX6_join 4 (Option.some FieldType.int) : Cond) ∈ TBL := tb_at 683 (by decide +kernel) (by decide +kernel)
theorem q_684 : (.methodLink RX6 46 yX5_put : Cond) ∈ TBL := tb_at 684 (by decide +kernel) (by decide +kernel)
theorem q_685 : (.methodLink RX6 50 yX6_shadeBy : Cond) ∈ TBL := tb_at 685 (by decide +kernel) (by decide +kernel)
theorem q_686 : (.instanceMethod yX6_shadeBy : Cond) ∈ TBL := tb_at 686 (by decide +kernel) (by decide +kernel)
theorem q_687 : (.selects RX6 yX6_shadeBy yX6_shadeBy : Cond) ∈ TBL := tb_at 687 (by decide +kernel) (by decide +kernel)
theorem q_688 : (.code yX6_shadeBy cX6_shadeBy 4 Option.none : Cond) ∈ TBL := tb_at 688 (by decide +kernel) (by decide +kernel)
theorem q_689 : (.methodLink RL 45 yX10_setValue : Cond) ∈ TBL := tb_at 689 (by decide +kernel) (by decide +kernel)
theorem q_690 : (.instanceMethod yX10_setValue : Cond) ∈ TBL := tb_at 690 (by decide +kernel) (by decide +kernel)
theorem q_691 : (.selects RX10 yX10_setValue yX10_setValue : Cond) ∈ TBL := tb_at 691 (by decide +kernel) (by decide +kernel)
theorem q_692 : (.code yX10_setValue cX10_setValue 4 (Option.some FieldType.int) : Cond) ∈ TBL := tb_at 692 (by decide +kernel) (by decide +kernel)
theorem q_693 : (.methodLink RX10 61 yX1_faultOfValue : Cond) ∈ TBL := tb_at 693 (by decide +kernel) (by decide +kernel)
theorem q_694 : (.instanceMethod yX1_faultOfValue : Cond) ∈ TBL := tb_at 694 (by decide +kernel) (by decide +kernel)
theorem q_695 : (.selects RX1 yX1_faultOfValue yX1_faultOfValue : Cond) ∈ TBL := tb_at 695 (by decide +kernel) (by decide +kernel)
theorem q_696 : (.code yX1_faultOfValue cX1_faultOfValue 3 (Option.some FieldType.int) : Cond) ∈ TBL := tb_at 696 (by decide +kernel) (by decide +kernel)
theorem q_697 : (.methodLink RX1 49 yX6_has : Cond) ∈ TBL := tb_at 697 (by decide +kernel) (by decide +kernel)
theorem q_698 : (.methodLink RX10 74 yX5_put : Cond) ∈ TBL := tb_at 698 (by decide +kernel) (by decide +kernel)
theorem q_699 : (.methodLink RL 48 yX10_setShade : Cond) ∈ TBL := tb_at 699 (by decide +kernel) (by decide +kernel)
theorem q_700 : (.instanceMethod yX10_setShade : Cond) ∈ TBL := tb_at 700 (by decide +kernel) (by decide +kernel)
theorem q_701 : (.selects RX10 yX10_setShade yX10_setShade : Cond) ∈ TBL := tb_at 701 (by decide +kernel) (by decide +kernel)
theorem q_702 : (.code yX10_setShade cX10_setShade 4 (Option.some FieldType.int) : Cond) ∈ TBL := tb_at 702 (by decide +kernel) (by decide +kernel)
theorem q_703 : (.methodLink RX10 78 yX1_faultOfShade : Cond) ∈ TBL := tb_at 703 (by decide +kernel) (by decide +kernel)
theorem q_704 : (.instanceMethod yX1_faultOfShade : Cond) ∈ TBL := tb_at 704 (by decide +kernel) (by decide +kernel)
theorem q_705 : (.selects RX1 yX1_faultOfShade yX1_faultOfShade : Cond) ∈ TBL := tb_at 705 (by decide +kernel) (by decide +kernel)
theorem q_706 : (.code yX1_faultOfShade cX1_faultOfShade 4 (Option.some FieldType.int) : Cond) ∈ TBL := tb_at 706 (by decide +kernel) (by decide +kernel)
theorem q_707 : (.methodLink RX10 82 yX6_shadeBy : Cond) ∈ TBL := tb_at 707 (by decide +kernel) (by decide +kernel)
theorem q_708 : (.methodLink RX10 86 yX6_bidOf : Cond) ∈ TBL := tb_at 708 (by decide +kernel) (by decide +kernel)
theorem q_709 : (.methodLink RL 52 yX10_set : Cond) ∈ TBL := tb_at 709 (by decide +kernel) (by decide +kernel)
theorem q_710 : (.instanceMethod yX10_set : Cond) ∈ TBL := tb_at 710 (by decide +kernel) (by decide +kernel)
theorem q_711 : (.selects RX10 yX10_set yX10_set : Cond) ∈ TBL := tb_at 711 (by decide +kernel) (by decide +kernel)
theorem q_712 : (.code yX10_set cX10_set 3 (Option.some FieldType.int) : Cond) ∈ TBL := tb_at 712 (by decide +kernel) (by decide +kernel)
theorem q_713 : (.methodLink RX10 89 yX1_faultOfSetting : Cond) ∈ TBL := tb_at 713 (by decide +kernel) (by decide +kernel)
theorem q_714 : (.instanceMethod yX1_faultOfSetting : Cond) ∈ TBL := tb_at 714 (by decide +kernel) (by decide +kernel)
theorem q_715 : (.selects RX1 yX1_faultOfSetting yX1_faultOfSetting : Cond) ∈ TBL := tb_at 715 (by decide +kernel) (by decide +kernel)
theorem q_716 : (.code yX1_faultOfSetting cX1_faultOfSetting 3 (Option.some FieldType.int) : Cond) ∈ TBL := tb_at 716 (by decide +kernel) (by decide +kernel)
theorem q_717 : (.methodLink RX10 92 yX1_change : Cond) ∈ TBL := tb_at 717 (by decide +kernel) (by decide +kernel)
theorem q_718 : (.instanceMethod yX1_change : Cond) ∈ TBL := tb_at 718 (by decide +kernel) (by decide +kernel)
theorem q_719 : (.selects RX1 yX1_change yX1_change : Cond) ∈ TBL := tb_at 719 (by decide +kernel) (by decide +kernel)
theorem q_720 : (.code yX1_change cX1_change 4 (Option.some FieldType.int) : Cond) ∈ TBL := tb_at 720 (by decide +kernel) (by decide +kernel)
theorem q_721 : (.methodLink RL 55 yX10_bid : Cond) ∈ TBL := tb_at 721 (by decide +kernel) (by decide +kernel)
theorem q_722 : (.instanceMethod yX10_bid : Cond) ∈ TBL := tb_at 722 (by decide +kernel) (by decide +kernel)
theorem q_723 : (.selects RX10 yX10_bid yX10_bid : Cond) ∈ TBL := tb_at 723 (by decide +kernel) (by decide +kernel)
theorem q_724 : (.code yX10_bid cX10_bid 3 (Option.some FieldType.int) : Cond) ∈ TBL := tb_at 724 (by decide +kernel) (by decide +kernel)
theorem q_725 : (.methodLink RX10 95 yX1_faultOfBid : Cond) ∈ TBL := tb_at 725 (by decide +kernel) (by decide +kernel)
theorem q_726 : (.instanceMethod yX1_faultOfBid : Cond) ∈ TBL := tb_at 726 (by decide +kernel) (by decide +kernel)
theorem q_727 : (.selects RX1 yX1_faultOfBid yX1_faultOfBid : Cond) ∈ TBL := tb_at 727 (by decide +kernel) (by decide +kernel)
theorem q_728 : (.code yX1_faultOfBid cX1_faultOfBid 3 (Option.some FieldType.int) : Cond) ∈ TBL := tb_at 728 (by decide +kernel) (by decide +kernel)
theorem q_729 : (.methodLink RX1 53 yX1_faultOfOrder : Cond) ∈ TBL := tb_at 729 (by decide +kernel) (by decide +kernel)
theorem q_730 : (.instanceMethod yX1_faultOfOrder : Cond) ∈ TBL := tb_at 730 (by decide +kernel) (by decide +kernel)
theorem q_731 : (.selects RX1 yX1_faultOfOrder yX1_faultOfOrder : Cond) ∈ TBL := tb_at 731 (by decide +kernel) (by decide +kernel)
theorem q_732 : (.code yX1_faultOfOrder cX1_faultOfOrder 4 (Option.some FieldType.int) : Cond) ∈ TBL := tb_at 732 (by decide +kernel) (by decide +kernel)
theorem q_733 : (.methodLink RX1 57 yX4_isFull : Cond) ∈ TBL := tb_at 733 (by decide +kernel) (by decide +kernel)
theorem q_734 : (.instanceMethod yX4_isFull : Cond) ∈ TBL := tb_at 734 (by decide +kernel) (by decide +kernel)
theorem q_735 : (.selects RX4 yX4_isFull yX4_isFull : Cond) ∈ TBL := tb_at 735 (by decide +kernel) (by decide +kernel)
theorem q_736 : (.code yX4_isFull cX4_isFull 1 (Option.some FieldType.boolean) : Cond) ∈ TBL := tb_at 736 (by decide +kernel) (by decide +kernel)
theorem q_737 : (.methodLink RX10 98 yX1_place : Cond) ∈ TBL := tb_at 737 (by decide +kernel) (by decide +kernel)
theorem q_738 : (.instanceMethod yX1_place : Cond) ∈ TBL := tb_at 738 (by decide +kernel) (by decide +kernel)
theorem q_739 : (.selects RX1 yX1_place yX1_place : Cond) ∈ TBL := tb_at 739 (by decide +kernel) (by decide +kernel)
theorem q_740 : (.code yX1_place cX1_place 4 (Option.some FieldType.int) : Cond) ∈ TBL := tb_at 740 (by decide +kernel) (by decide +kernel)
theorem q_741 : (.methodLink RX1 77 yX4_append : Cond) ∈ TBL := tb_at 741 (by decide +kernel) (by decide +kernel)
theorem q_742 : (.instanceMethod yX4_append : Cond) ∈ TBL := tb_at 742 (by decide +kernel) (by decide +kernel)
theorem q_743 : (.selects RX4 yX4_append yX4_append : Cond) ∈ TBL := tb_at 743 (by decide +kernel) (by decide +kernel)
theorem q_744 : (.code yX4_append cX4_append 7 Option.none : Cond) ∈ TBL := tb_at 744 (by decide +kernel) (by decide +kernel)
theorem q_745 : (.methodLink RX4 46 yX5_put : Cond) ∈ TBL := tb_at 745 (by decide +kernel) (by decide +kernel)
theorem q_746 : (.methodLink RL 58 yX10_order : Cond) ∈ TBL := tb_at 746 (by decide +kernel) (by decide +kernel)
theorem q_747 : (.instanceMethod yX10_order : Cond) ∈ TBL := tb_at 747 (by decide +kernel) (by decide +kernel)
theorem q_748 : (.selects RX10 yX10_order yX10_order : Cond) ∈ TBL := tb_at 748 (by decide +kernel) (by decide +kernel)
theorem q_749 : (.code yX10_order cX10_order 4 (Option.some FieldType.int) : Cond) ∈ TBL := tb_at 749 (by decide +kernel) (by decide +kernel)
theorem q_750 : (.methodLink RX10 101 yX1_faultOfOrder : Cond) ∈ TBL := tb_at 750 (by decide +kernel) (by decide +kernel)
theorem q_751 : (.methodLink RL 70 yX10_cancel : Cond) ∈ TBL := tb_at 751 (by decide +kernel) (by decide +kernel)
theorem q_752 : (.instanceMethod yX10_cancel : Cond) ∈ TBL := tb_at 752 (by decide +kernel) (by decide +kernel)
theorem q_753 : (.selects RX10 yX10_cancel yX10_cancel : Cond) ∈ TBL := tb_at 753 (by decide +kernel) (by decide +kernel)
theorem q_754 : (.code yX10_cancel cX10_cancel 2 (Option.some FieldType.int) : Cond) ∈ TBL := tb_at 754 (by decide +kernel) (by decide +kernel)
theorem q_755 : (.methodLink RX10 113 yX4_withdraw : Cond) ∈ TBL := tb_at 755 (by decide +kernel) (by decide +kernel)
theorem q_756 : (.instanceMethod yX4_withdraw : Cond) ∈ TBL := tb_at 756 (by decide +kernel) (by decide +kernel)
theorem q_757 : (.selects RX4 yX4_withdraw yX4_withdraw : Cond) ∈ TBL := tb_at 757 (by decide +kernel) (by decide +kernel)
theorem q_758 : (.code yX4_withdraw cX4_withdraw 4 (Option.some FieldType.int) : Cond) ∈ TBL := tb_at 758 (by decide +kernel) (by decide +kernel)
theorem q_759 : (.methodLink RX4 50 yX4_removeAt : Cond) ∈ TBL := tb_at 759 (by decide +kernel) (by decide +kernel)
theorem q_760 : (.instanceMethod yX4_removeAt : Cond) ∈ TBL := tb_at 760 (by decide +kernel) (by decide +kernel)
theorem q_761 : (.selects RX4 yX4_removeAt yX4_removeAt : Cond) ∈ TBL := tb_at 761 (by decide +kernel) (by decide +kernel)
theorem q_762 : (.code yX4_removeAt cX4_removeAt 2 Option.none : Cond) ∈ TBL := tb_at 762 (by decide +kernel) (by decide +kernel)
theorem q_763 : (.methodLink RX4 53 yX5_removeAt : Cond) ∈ TBL := tb_at 763 (by decide +kernel) (by decide +kernel)
theorem q_764 : (.instanceMethod yX5_removeAt : Cond) ∈ TBL := tb_at 764 (by decide +kernel) (by decide +kernel)
theorem q_765 : (.selects RX5 yX5_removeAt yX5_removeAt : Cond) ∈ TBL := tb_at 765 (by decide +kernel) (by decide +kernel)
theorem q_766 : (.code yX5_removeAt cX5_removeAt 3 Option.none : Cond) ∈ TBL := tb_at 766 (by decide +kernel) (by decide +kernel)
theorem q_767 : (.methodLink RL 73 yX10_clear : Cond) ∈ TBL := tb_at 767 (by decide +kernel) (by decide +kernel)
theorem q_768 : (.instanceMethod yX10_clear : Cond) ∈ TBL := tb_at 768 (by decide +kernel) (by decide +kernel)
theorem q_769 : (.selects RX10 yX10_clear yX10_clear : Cond) ∈ TBL := tb_at 769 (by decide +kernel) (by decide +kernel)
theorem q_770 : (.code yX10_clear cX10_clear 1 (Option.some FieldType.int) : Cond) ∈ TBL := tb_at 770 (by decide +kernel) (by decide +kernel)
theorem q_771 : (.methodLink RX10 116 yX1_faultOfRound : Cond) ∈ TBL := tb_at 771 (by decide +kernel) (by decide +kernel)
theorem q_772 : (.instanceMethod yX1_faultOfRound : Cond) ∈ TBL := tb_at 772 (by decide +kernel) (by decide +kernel)
theorem q_773 : (.selects RX1 yX1_faultOfRound yX1_faultOfRound : Cond) ∈ TBL := tb_at 773 (by decide +kernel) (by decide +kernel)
theorem q_774 : (.code yX1_faultOfRound cX1_faultOfRound 1 (Option.some FieldType.int) : Cond) ∈ TBL := tb_at 774 (by decide +kernel) (by decide +kernel)
theorem q_775 : (.methodLink RX10 120 yX1_endRound : Cond) ∈ TBL := tb_at 775 (by decide +kernel) (by decide +kernel)
theorem q_776 : (.instanceMethod yX1_endRound : Cond) ∈ TBL := tb_at 776 (by decide +kernel) (by decide +kernel)
theorem q_777 : (.selects RX1 yX1_endRound yX1_endRound : Cond) ∈ TBL := tb_at 777 (by decide +kernel) (by decide +kernel)
theorem q_778 : (.code yX1_endRound cX1_endRound 4 (Option.some FieldType.int) : Cond) ∈ TBL := tb_at 778 (by decide +kernel) (by decide +kernel)
theorem q_779 : (.methodLink RX1 81 yX2_settle : Cond) ∈ TBL := tb_at 779 (by decide +kernel) (by decide +kernel)
theorem q_780 : (.methodLink RX1 87 yX2_pairOff : Cond) ∈ TBL := tb_at 780 (by decide +kernel) (by decide +kernel)
theorem q_781 : (.instanceMethod yX2_pairOff : Cond) ∈ TBL := tb_at 781 (by decide +kernel) (by decide +kernel)
theorem q_782 : (.selects RX2 yX2_pairOff yX2_pairOff : Cond) ∈ TBL := tb_at 782 (by decide +kernel) (by decide +kernel)
theorem q_783 : (.code yX2_pairOff cX2_pairOff 10 Option.none : Cond) ∈ TBL := tb_at 783 (by decide +kernel) (by decide +kernel)
theorem q_784 : (.methodLink RX2 129 yX7_append : Cond) ∈ TBL := tb_at 784 (by decide +kernel) (by decide +kernel)
theorem q_785 : (.instanceMethod yX7_append : Cond) ∈ TBL := tb_at 785 (by decide +kernel) (by decide +kernel)
theorem q_786 : (.selects RX7 yX7_append yX7_append : Cond) ∈ TBL := tb_at 786 (by decide +kernel) (by decide +kernel)
theorem q_787 : (.code yX7_append cX7_append 5 Option.none : Cond) ∈ TBL := tb_at 787 (by decide +kernel) (by decide +kernel)
theorem q_788 : (.methodLink RX7 45 yX5_put : Cond) ∈ TBL := tb_at 788 (by decide +kernel) (by decide +kernel)
theorem q_789 : (.methodLink RX1 104 yX2_takenOf : Cond) ∈ TBL := tb_at 789 (by decide +kernel) (by decide +kernel)
theorem q_790 : (.instanceMethod yX2_takenOf : Cond) ∈ TBL := tb_at 790 (by decide +kernel) (by decide +kernel)
theorem q_791 : (.selects RX2 yX2_takenOf yX2_takenOf : Cond) ∈ TBL := tb_at 791 (by decide +kernel) (by decide +kernel)
theorem q_792 : (.code yX2_takenOf cX2_takenOf 5 (Option.some FieldType.int) : Cond) ∈ TBL := tb_at 792 (by decide +kernel) (by decide +kernel)
theorem q_793 : (.methodLink RX1 108 yX6_book : Cond) ∈ TBL := tb_at 793 (by decide +kernel) (by decide +kernel)
theorem q_794 : (.instanceMethod yX6_book : Cond) ∈ TBL := tb_at 794 (by decide +kernel) (by decide +kernel)
theorem q_795 : (.selects RX6 yX6_book yX6_book : Cond) ∈ TBL := tb_at 795 (by decide +kernel) (by decide +kernel)
theorem q_796 : (.code yX6_book cX6_book 4 Option.none : Cond) ∈ TBL := tb_at 796 (by decide +kernel) (by decide +kernel)
theorem q_797 : (.methodLink RX6 73 yX5_add : Cond) ∈ TBL := tb_at 797 (by decide +kernel) (by decide +kernel)
theorem q_798 : (.methodLink RX6 76 yX6_gainPerUnit : Cond) ∈ TBL := tb_at 798 (by decide +kernel) (by decide +kernel)
theorem q_799 : (.instanceMethod yX6_gainPerUnit : Cond) ∈ TBL := tb_at 799 (by decide +kernel) (by decide +kernel)
theorem q_800 : (.selects RX6 yX6_gainPerUnit yX6_gainPerUnit : Cond) ∈ TBL := tb_at 800 (by decide +kernel) (by decide +kernel)
theorem q_801 : (.code yX6_gainPerUnit cX6_gainPerUnit 3 (Option.some FieldType.int) : Cond) ∈ TBL := tb_at 801 (by decide +kernel) (by decide +kernel)
theorem q_802 : (.methodLink RX1 115 yX6_learn : Cond) ∈ TBL := tb_at 802 (by decide +kernel) (by decide +kernel)
theorem q_803 : (.instanceMethod yX6_learn : Cond) ∈ TBL := tb_at 803 (by decide +kernel) (by decide +kernel)
theorem q_804 : (.selects RX6 yX6_learn yX6_learn : Cond) ∈ TBL := tb_at 804 (by decide +kernel) (by decide +kernel)
theorem q_805 : (.code yX6_learn cX6_learn 4 Option.none : Cond) ∈ TBL := tb_at 805 (by decide +kernel) (by decide +kernel)
theorem q_806 : (.methodLink RX1 125 yX5_add : Cond) ∈ TBL := tb_at 806 (by decide +kernel) (by decide +kernel)
theorem q_807 : (.methodLink RX1 129 yX4_removeEmpty : Cond) ∈ TBL := tb_at 807 (by decide +kernel) (by decide +kernel)
theorem q_808 : (.instanceMethod yX4_removeEmpty : Cond) ∈ TBL := tb_at 808 (by decide +kernel) (by decide +kernel)
theorem q_809 : (.selects RX4 yX4_removeEmpty yX4_removeEmpty : Cond) ∈ TBL := tb_at 809 (by decide +kernel) (by decide +kernel)
theorem q_810 : (.code yX4_removeEmpty cX4_removeEmpty 2 Option.none : Cond) ∈ TBL := tb_at 810 (by decide +kernel) (by decide +kernel)
theorem q_811 : (.methodLink RX1 135 yX4_removeUpTo : Cond) ∈ TBL := tb_at 811 (by decide +kernel) (by decide +kernel)
theorem q_812 : (.instanceMethod yX4_removeUpTo : Cond) ∈ TBL := tb_at 812 (by decide +kernel) (by decide +kernel)
theorem q_813 : (.selects RX4 yX4_removeUpTo yX4_removeUpTo : Cond) ∈ TBL := tb_at 813 (by decide +kernel) (by decide +kernel)
theorem q_814 : (.code yX4_removeUpTo cX4_removeUpTo 4 (Option.some FieldType.int) : Cond) ∈ TBL := tb_at 814 (by decide +kernel) (by decide +kernel)
theorem q_815 : (.methodLink RL 61 yX10_gainWith : Cond) ∈ TBL := tb_at 815 (by decide +kernel) (by decide +kernel)
theorem q_816 : (.instanceMethod yX10_gainWith : Cond) ∈ TBL := tb_at 816 (by decide +kernel) (by decide +kernel)
theorem q_817 : (.selects RX10 yX10_gainWith yX10_gainWith : Cond) ∈ TBL := tb_at 817 (by decide +kernel) (by decide +kernel)
theorem q_818 : (.code yX10_gainWith cX10_gainWith 3 (Option.some FieldType.int) : Cond) ∈ TBL := tb_at 818 (by decide +kernel) (by decide +kernel)
theorem q_819 : (.methodLink RX10 144 yX10_faultOfPrice : Cond) ∈ TBL := tb_at 819 (by decide +kernel) (by decide +kernel)
theorem q_820 : (.static yX10_faultOfPrice : Cond) ∈ TBL := tb_at 820 (by decide +kernel) (by decide +kernel)
theorem q_821 : (.code yX10_faultOfPrice cX10_faultOfPrice 1 (Option.some FieldType.int) : Cond) ∈ TBL := tb_at 821 (by decide +kernel) (by decide +kernel)
theorem q_822 : (.methodLink RX10 166 yX4_isFull : Cond) ∈ TBL := tb_at 822 (by decide +kernel) (by decide +kernel)
theorem q_823 : (.methodLink RX10 170 yX1_copyFrom : Cond) ∈ TBL := tb_at 823 (by decide +kernel) (by decide +kernel)
theorem q_824 : (.methodLink RX10 177 yX2_gainOf : Cond) ∈ TBL := tb_at 824 (by decide +kernel) (by decide +kernel)
theorem q_825 : (.instanceMethod yX2_gainOf : Cond) ∈ TBL := tb_at 825 (by decide +kernel) (by decide +kernel)
theorem q_826 : (.selects RX2 yX2_gainOf yX2_gainOf : Cond) ∈ TBL := tb_at 826 (by decide +kernel) (by decide +kernel)
theorem q_827 : (.code yX2_gainOf cX2_gainOf 4 (Option.some FieldType.int) : Cond) ∈ TBL := tb_at 827 (by decide +kernel) (by decide +kernel)
theorem q_828 : (.methodLink RX2 107 yX2_takenOf : Cond) ∈ TBL := tb_at 828 (by decide +kernel) (by decide +kernel)
theorem q_829 : (.methodLink RX2 115 yX6_gainPerUnit : Cond) ∈ TBL := tb_at 829 (by decide +kernel) (by decide +kernel)
theorem q_830 : (.methodLink RL 77 yX10_goneIn : Cond) ∈ TBL := tb_at 830 (by decide +kernel) (by decide +kernel)
theorem q_831 : (.instanceMethod yX10_goneIn : Cond) ∈ TBL := tb_at 831 (by decide +kernel) (by decide +kernel)
theorem q_832 : (.selects RX10 yX10_goneIn yX10_goneIn : Cond) ∈ TBL := tb_at 832 (by decide +kernel) (by decide +kernel)
theorem q_833 : (.code yX10_goneIn cX10_goneIn 3 (Option.some FieldType.int) : Cond) ∈ TBL := tb_at 833 (by decide +kernel) (by decide +kernel)
theorem q_834 : (.methodLink RL 80 yX10_bestSplit : Cond) ∈ TBL := tb_at 834 (by decide +kernel) (by decide +kernel)
theorem q_835 : (.instanceMethod yX10_bestSplit : Cond) ∈ TBL := tb_at 835 (by decide +kernel) (by decide +kernel)
theorem q_836 : (.selects RX10 yX10_bestSplit yX10_bestSplit : Cond) ∈ TBL := tb_at 836 (by decide +kernel) (by decide +kernel)
theorem q_837 : (.code yX10_bestSplit cX10_bestSplit 6 (Option.some FieldType.int) : Cond) ∈ TBL := tb_at 837 (by decide +kernel) (by decide +kernel)
theorem q_838 : (.methodLink RX10 187 yX2_priceWith : Cond) ∈ TBL := tb_at 838 (by decide +kernel) (by decide +kernel)
theorem q_839 : (.methodLink RL 83 yL_any : Cond) ∈ TBL := tb_at 839 (by decide +kernel) (by decide +kernel)
theorem q_840 : (.static yL_any : Cond) ∈ TBL := tb_at 840 (by decide +kernel) (by decide +kernel)
theorem q_841 : (.code yL_any cL_any 3 (Option.some FieldType.int) : Cond) ∈ TBL := tb_at 841 (by decide +kernel) (by decide +kernel)
theorem q_842 : (.methodLink RL 64 yX10_reason : Cond) ∈ TBL := tb_at 842 (by decide +kernel) (by decide +kernel)
theorem q_843 : (.instanceMethod yX10_reason : Cond) ∈ TBL := tb_at 843 (by decide +kernel) (by decide +kernel)
theorem q_844 : (.selects RX10 yX10_reason yX10_reason : Cond) ∈ TBL := tb_at 844 (by decide +kernel) (by decide +kernel)
theorem q_845 : (.code yX10_reason cX10_reason 2 (Option.some FieldType.int) : Cond) ∈ TBL := tb_at 845 (by decide +kernel) (by decide +kernel)
theorem q_846 : (.methodLink RX10 162 yX2_reasonOf : Cond) ∈ TBL := tb_at 846 (by decide +kernel) (by decide +kernel)
theorem q_847 : (.instanceMethod yX2_reasonOf : Cond) ∈ TBL := tb_at 847 (by decide +kernel) (by decide +kernel)
theorem q_848 : (.selects RX2 yX2_reasonOf yX2_reasonOf : Cond) ∈ TBL := tb_at 848 (by decide +kernel) (by decide +kernel)
theorem q_849 : (.code yX2_reasonOf cX2_reasonOf 3 (Option.some FieldType.int) : Cond) ∈ TBL := tb_at 849 (by decide +kernel) (by decide +kernel)
theorem q_850 : (.methodLink RX2 97 yX4_accepts : Cond) ∈ TBL := tb_at 850 (by decide +kernel) (by decide +kernel)
theorem q_851 : (.instanceMethod yX4_accepts : Cond) ∈ TBL := tb_at 851 (by decide +kernel) (by decide +kernel)
theorem q_852 : (.selects RX4 yX4_accepts yX4_accepts : Cond) ∈ TBL := tb_at 852 (by decide +kernel) (by decide +kernel)
theorem q_853 : (.code yX4_accepts cX4_accepts 3 (Option.some FieldType.boolean) : Cond) ∈ TBL := tb_at 853 (by decide +kernel) (by decide +kernel)
theorem q_854 : (.constant RL 91 (-1000000000) : Cond) ∈ TBL := tb_at 854 (by decide +kernel) (by decide +kernel)
theorem q_855 : (.methodLink RL 121 yL_areRight : Cond) ∈ TBL := tb_at 855 (by decide +kernel) (by decide +kernel)
theorem q_856 : (.static yL_areRight : Cond) ∈ TBL := tb_at 856 (by decide +kernel) (by decide +kernel)
theorem q_857 : (.code yL_areRight cL_areRight 7 (Option.some FieldType.boolean) : Cond) ∈ TBL := tb_at 857 (by decide +kernel) (by decide +kernel)
theorem q_858 : (.methodLink RL 117 yL_isUndone : Cond) ∈ TBL := tb_at 858 (by decide +kernel) (by decide +kernel)
theorem q_859 : (.static yL_isUndone : Cond) ∈ TBL := tb_at 859 (by decide +kernel) (by decide +kernel)
theorem q_860 : (.code yL_isUndone cL_isUndone 9 (Option.some FieldType.boolean) : Cond) ∈ TBL := tb_at 860 (by decide +kernel) (by decide +kernel)
theorem q_861 : (.methodLink RL 98 yX10_undo : Cond) ∈ TBL := tb_at 861 (by decide +kernel) (by decide +kernel)
theorem q_862 : (.instanceMethod yX10_undo : Cond) ∈ TBL := tb_at 862 (by decide +kernel) (by decide +kernel)
theorem q_863 : (.selects RX10 yX10_undo yX10_undo : Cond) ∈ TBL := tb_at 863 (by decide +kernel) (by decide +kernel)
theorem q_864 : (.code yX10_undo cX10_undo 1 (Option.some FieldType.int) : Cond) ∈ TBL := tb_at 864 (by decide +kernel) (by decide +kernel)
theorem q_865 : (.methodLink RX10 217 yX8_pop : Cond) ∈ TBL := tb_at 865 (by decide +kernel) (by decide +kernel)
theorem q_866 : (.instanceMethod yX8_pop : Cond) ∈ TBL := tb_at 866 (by decide +kernel) (by decide +kernel)
theorem q_867 : (.selects RX8 yX8_pop yX8_pop : Cond) ∈ TBL := tb_at 867 (by decide +kernel) (by decide +kernel)
theorem q_868 : (.code yX8_pop cX8_pop 3 Option.none : Cond) ∈ TBL := tb_at 868 (by decide +kernel) (by decide +kernel)
theorem q_869 : (.sameMethod "java/lang/Throwable" "java/lang/Throwable" "fillInStackTrace" "(I)Ljava/lang/Throwable;" : Cond) ∈ TBL := tb_at 869 (by decide +kernel) (by decide +kernel)
theorem tuX1 : ∀ w ∈ u_ws RX1 TX1 11, w ∈ TBL := by
  intro w h
  obtain ⟨k, hk, rfl⟩ := List.mem_map.mp h
  have hk := List.mem_range.mp hk
  match k, hk with
  | 0, _ => exact tb_at 186 (by decide +kernel) (by decide +kernel)
  | 1, _ => exact tb_at 188 (by decide +kernel) (by decide +kernel)
  | 2, _ => exact tb_at 190 (by decide +kernel) (by decide +kernel)
  | 3, _ => exact tb_at 192 (by decide +kernel) (by decide +kernel)
  | 4, _ => exact tb_at 194 (by decide +kernel) (by decide +kernel)
  | 5, _ => exact tb_at 196 (by decide +kernel) (by decide +kernel)
  | 6, _ => exact tb_at 198 (by decide +kernel) (by decide +kernel)
  | 7, _ => exact tb_at 200 (by decide +kernel) (by decide +kernel)
  | 8, _ => exact tb_at 202 (by decide +kernel) (by decide +kernel)
  | 9, _ => exact tb_at 204 (by decide +kernel) (by decide +kernel)
  | 10, _ => exact tb_at 206 (by decide +kernel) (by decide +kernel)
  | k + 11, h => exact absurd h (by omega)
theorem tuX2 : ∀ w ∈ u_ws RX2 TX2 12, w ∈ TBL := by
  intro w h
  obtain ⟨k, hk, rfl⟩ := List.mem_map.mp h
  have hk := List.mem_range.mp hk
  match k, hk with
  | 0, _ => exact tb_at 236 (by decide +kernel) (by decide +kernel)
  | 1, _ => exact tb_at 238 (by decide +kernel) (by decide +kernel)
  | 2, _ => exact tb_at 240 (by decide +kernel) (by decide +kernel)
  | 3, _ => exact tb_at 242 (by decide +kernel) (by decide +kernel)
  | 4, _ => exact tb_at 244 (by decide +kernel) (by decide +kernel)
  | 5, _ => exact tb_at 246 (by decide +kernel) (by decide +kernel)
  | 6, _ => exact tb_at 248 (by decide +kernel) (by decide +kernel)
  | 7, _ => exact tb_at 250 (by decide +kernel) (by decide +kernel)
  | 8, _ => exact tb_at 252 (by decide +kernel) (by decide +kernel)
  | 9, _ => exact tb_at 254 (by decide +kernel) (by decide +kernel)
  | 10, _ => exact tb_at 256 (by decide +kernel) (by decide +kernel)
  | 11, _ => exact tb_at 258 (by decide +kernel) (by decide +kernel)
  | k + 12, h => exact absurd h (by omega)
theorem tuX3 : ∀ w ∈ u_ws RX3 TX3 6, w ∈ TBL := by
  intro w h
  obtain ⟨k, hk, rfl⟩ := List.mem_map.mp h
  have hk := List.mem_range.mp hk
  match k, hk with
  | 0, _ => exact tb_at 293 (by decide +kernel) (by decide +kernel)
  | 1, _ => exact tb_at 295 (by decide +kernel) (by decide +kernel)
  | 2, _ => exact tb_at 297 (by decide +kernel) (by decide +kernel)
  | 3, _ => exact tb_at 299 (by decide +kernel) (by decide +kernel)
  | 4, _ => exact tb_at 301 (by decide +kernel) (by decide +kernel)
  | 5, _ => exact tb_at 303 (by decide +kernel) (by decide +kernel)
  | k + 6, h => exact absurd h (by omega)
theorem tuX4 : ∀ w ∈ u_ws RX4 TX4 7, w ∈ TBL := by
  intro w h
  obtain ⟨k, hk, rfl⟩ := List.mem_map.mp h
  have hk := List.mem_range.mp hk
  match k, hk with
  | 0, _ => exact tb_at 124 (by decide +kernel) (by decide +kernel)
  | 1, _ => exact tb_at 126 (by decide +kernel) (by decide +kernel)
  | 2, _ => exact tb_at 128 (by decide +kernel) (by decide +kernel)
  | 3, _ => exact tb_at 130 (by decide +kernel) (by decide +kernel)
  | 4, _ => exact tb_at 132 (by decide +kernel) (by decide +kernel)
  | 5, _ => exact tb_at 134 (by decide +kernel) (by decide +kernel)
  | 6, _ => exact tb_at 136 (by decide +kernel) (by decide +kernel)
  | k + 7, h => exact absurd h (by omega)
theorem tuX5 : ∀ w ∈ u_ws RX5 TX5 1, w ∈ TBL := by
  intro w h
  obtain ⟨k, hk, rfl⟩ := List.mem_map.mp h
  have hk := List.mem_range.mp hk
  match k, hk with
  | 0, _ => exact tb_at 58 (by decide +kernel) (by decide +kernel)
  | k + 1, h => exact absurd h (by omega)
theorem tuX6 : ∀ w ∈ u_ws RX6 TX6 8, w ∈ TBL := by
  intro w h
  obtain ⟨k, hk, rfl⟩ := List.mem_map.mp h
  have hk := List.mem_range.mp hk
  match k, hk with
  | 0, _ => exact tb_at 81 (by decide +kernel) (by decide +kernel)
  | 1, _ => exact tb_at 83 (by decide +kernel) (by decide +kernel)
  | 2, _ => exact tb_at 85 (by decide +kernel) (by decide +kernel)
  | 3, _ => exact tb_at 87 (by decide +kernel) (by decide +kernel)
  | 4, _ => exact tb_at 89 (by decide +kernel) (by decide +kernel)
  | 5, _ => exact tb_at 91 (by decide +kernel) (by decide +kernel)
  | 6, _ => exact tb_at 93 (by decide +kernel) (by decide +kernel)
  | 7, _ => exact tb_at 95 (by decide +kernel) (by decide +kernel)
  | k + 8, h => exact absurd h (by omega)
theorem tuX7 : ∀ w ∈ u_ws RX7 TX7 6, w ∈ TBL := by
  intro w h
  obtain ⟨k, hk, rfl⟩ := List.mem_map.mp h
  have hk := List.mem_range.mp hk
  match k, hk with
  | 0, _ => exact tb_at 156 (by decide +kernel) (by decide +kernel)
  | 1, _ => exact tb_at 158 (by decide +kernel) (by decide +kernel)
  | 2, _ => exact tb_at 160 (by decide +kernel) (by decide +kernel)
  | 3, _ => exact tb_at 162 (by decide +kernel) (by decide +kernel)
  | 4, _ => exact tb_at 164 (by decide +kernel) (by decide +kernel)
  | 5, _ => exact tb_at 166 (by decide +kernel) (by decide +kernel)
  | k + 6, h => exact absurd h (by omega)
theorem tuX8 : ∀ w ∈ u_ws RX8 TX8 3, w ∈ TBL := by
  intro w h
  obtain ⟨k, hk, rfl⟩ := List.mem_map.mp h
  have hk := List.mem_range.mp hk
  match k, hk with
  | 0, _ => exact tb_at 274 (by decide +kernel) (by decide +kernel)
  | 1, _ => exact tb_at 276 (by decide +kernel) (by decide +kernel)
  | 2, _ => exact tb_at 278 (by decide +kernel) (by decide +kernel)
  | k + 3, h => exact absurd h (by omega)
theorem tuX10 : ∀ w ∈ u_ws RX10 TX10 5, w ∈ TBL := by
  intro w h
  obtain ⟨k, hk, rfl⟩ := List.mem_map.mp h
  have hk := List.mem_range.mp hk
  match k, hk with
  | 0, _ => exact tb_at 311 (by decide +kernel) (by decide +kernel)
  | 1, _ => exact tb_at 313 (by decide +kernel) (by decide +kernel)
  | 2, _ => exact tb_at 315 (by decide +kernel) (by decide +kernel)
  | 3, _ => exact tb_at 317 (by decide +kernel) (by decide +kernel)
  | 4, _ => exact tb_at 319 (by decide +kernel) (by decide +kernel)
  | k + 5, h => exact absurd h (by omega)
