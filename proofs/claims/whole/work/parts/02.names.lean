/-! names: classes, fields, methods, decode rows, as printed for this claim -/
def RX0 : String := "ShadedBooks$1"
def TX0 : u_T := fun k => match k with
  | _ => ("", "", "", false)
def tyX0 : Nat → FieldType := fun k => match k with
  | _ => .int
abbrev wsX00 : List Cond := u_ws RX0 TX0 0
theorem nmX0 : ∀ a, a < 0 → ∀ b, b < 0 → a ≠ b → (TX0 a).2.1 ≠ (TX0 b).2.1 := by decide +kernel
theorem tyX0_ok : ∀ k, k < 0 → parseFieldDescriptor (TX0 k).2.2.1 = some (tyX0 k) := by decide +kernel
def RX1 : String := "ShadedBooks$Auction"
def TX1 : u_T := fun k => match k with
  | 0 => ("ShadedBooks$Auction", "traders", "LShadedBooks$Traders;", true)
  | 1 => ("ShadedBooks$Auction", "orders", "LShadedBooks$Orders;", true)
  | 2 => ("ShadedBooks$Auction", "trades", "LShadedBooks$Trades;", true)
  | 3 => ("ShadedBooks$Auction", "split", "I", false)
  | 4 => ("ShadedBooks$Auction", "life", "I", false)
  | 5 => ("ShadedBooks$Auction", "round", "I", false)
  | 6 => ("ShadedBooks$Auction", "placed", "I", false)
  | 7 => ("ShadedBooks$Auction", "traded", "I", false)
  | 8 => ("ShadedBooks$Auction", "surplus", "I", false)
  | 9 => ("ShadedBooks$Auction", "lastPrice", "I", false)
  | _ => ("ShadedBooks$Auction", "expired", "I", false)
def tyX1 : Nat → FieldType := fun k => match k with
  | 0 => .object "ShadedBooks$Traders"
  | 1 => .object "ShadedBooks$Orders"
  | 2 => .object "ShadedBooks$Trades"
  | 3 => .int
  | 4 => .int
  | 5 => .int
  | 6 => .int
  | 7 => .int
  | 8 => .int
  | 9 => .int
  | _ => .int
abbrev wsX10 : List Cond := u_ws RX1 TX1 11
theorem nmX1 : ∀ a, a < 11 → ∀ b, b < 11 → a ≠ b → (TX1 a).2.1 ≠ (TX1 b).2.1 := by decide +kernel
theorem tyX1_ok : ∀ k, k < 11 → parseFieldDescriptor (TX1 k).2.2.1 = some (tyX1 k) := by decide +kernel
abbrev cX1_init : ByteArray := prog_3_method_1_code
def yX1_init : MethodName := ⟨RX1, "<init>", "()V"⟩
abbrev cX1_faultOfJoin : ByteArray := prog_3_method_2_code
def yX1_faultOfJoin : MethodName := ⟨RX1, "faultOfJoin", "(II)I"⟩
abbrev cX1_faultOfValue : ByteArray := prog_3_method_3_code
def yX1_faultOfValue : MethodName := ⟨RX1, "faultOfValue", "(II)I"⟩
abbrev cX1_faultOfShade : ByteArray := prog_3_method_4_code
def yX1_faultOfShade : MethodName := ⟨RX1, "faultOfShade", "(III)I"⟩
abbrev cX1_faultOfSetting : ByteArray := prog_3_method_5_code
def yX1_faultOfSetting : MethodName := ⟨RX1, "faultOfSetting", "(II)I"⟩
abbrev cX1_faultOfBid : ByteArray := prog_3_method_6_code
def yX1_faultOfBid : MethodName := ⟨RX1, "faultOfBid", "(II)I"⟩
abbrev cX1_faultOfOrder : ByteArray := prog_3_method_7_code
def yX1_faultOfOrder : MethodName := ⟨RX1, "faultOfOrder", "(III)I"⟩
abbrev cX1_faultOfRound : ByteArray := prog_3_method_8_code
def yX1_faultOfRound : MethodName := ⟨RX1, "faultOfRound", "()I"⟩
abbrev cX1_change : ByteArray := prog_3_method_9_code
def yX1_change : MethodName := ⟨RX1, "change", "(II)I"⟩
abbrev cX1_place : ByteArray := prog_3_method_10_code
def yX1_place : MethodName := ⟨RX1, "place", "(III)I"⟩
abbrev cX1_endRound : ByteArray := prog_3_method_11_code
def yX1_endRound : MethodName := ⟨RX1, "endRound", "(LShadedBooks$Clearing;)I"⟩
abbrev cX1_traderValue : ByteArray := prog_3_method_12_code
def yX1_traderValue : MethodName := ⟨RX1, "traderValue", "(II)I"⟩
abbrev cX1_wholeValue : ByteArray := prog_3_method_13_code
def yX1_wholeValue : MethodName := ⟨RX1, "wholeValue", "(I)I"⟩
abbrev cX1_copyFrom : ByteArray := prog_3_method_14_code
def yX1_copyFrom : MethodName := ⟨RX1, "copyFrom", "(LShadedBooks$Auction;)V"⟩
def RX2 : String := "ShadedBooks$Clearing"
def TX2 : u_T := fun k => match k with
  | 0 => ("ShadedBooks$Clearing", "lowest", "I", false)
  | 1 => ("ShadedBooks$Clearing", "highest", "I", false)
  | 2 => ("ShadedBooks$Clearing", "price", "I", false)
  | 3 => ("ShadedBooks$Clearing", "volume", "I", false)
  | 4 => ("ShadedBooks$Clearing", "surplus", "I", false)
  | 5 => ("ShadedBooks$Clearing", "taken", "LShadedBooks$Row;", true)
  | 6 => ("ShadedBooks$Clearing", "buys", "LShadedBooks$Row;", true)
  | 7 => ("ShadedBooks$Clearing", "sells", "LShadedBooks$Row;", true)
  | 8 => ("ShadedBooks$Clearing", "buyCount", "I", false)
  | 9 => ("ShadedBooks$Clearing", "sellCount", "I", false)
  | 10 => ("ShadedBooks$Clearing", "wanted", "LShadedBooks$Row;", true)
  | _ => ("ShadedBooks$Clearing", "offered", "LShadedBooks$Row;", true)
def tyX2 : Nat → FieldType := fun k => match k with
  | 0 => .int
  | 1 => .int
  | 2 => .int
  | 3 => .int
  | 4 => .int
  | 5 => .object "ShadedBooks$Row"
  | 6 => .object "ShadedBooks$Row"
  | 7 => .object "ShadedBooks$Row"
  | 8 => .int
  | 9 => .int
  | 10 => .object "ShadedBooks$Row"
  | _ => .object "ShadedBooks$Row"
abbrev wsX20 : List Cond := u_ws RX2 TX2 12
theorem nmX2 : ∀ a, a < 12 → ∀ b, b < 12 → a ≠ b → (TX2 a).2.1 ≠ (TX2 b).2.1 := by decide +kernel
theorem tyX2_ok : ∀ k, k < 12 → parseFieldDescriptor (TX2 k).2.2.1 = some (tyX2 k) := by decide +kernel
abbrev cX2_init : ByteArray := prog_4_method_1_code
def yX2_init : MethodName := ⟨RX2, "<init>", "()V"⟩
abbrev cX2_settle : ByteArray := prog_4_method_2_code
def yX2_settle : MethodName := ⟨RX2, "settle", "(LShadedBooks$Auction;)V"⟩
abbrev cX2_priceWith : ByteArray := prog_4_method_3_code
def yX2_priceWith : MethodName := ⟨RX2, "priceWith", "(I)I"⟩
abbrev cX2_valueOf : ByteArray := prog_4_method_4_code
def yX2_valueOf : MethodName := ⟨RX2, "valueOf", "(LShadedBooks$Auction;I)I"⟩
abbrev cX2_reasonOf : ByteArray := prog_4_method_5_code
def yX2_reasonOf : MethodName := ⟨RX2, "reasonOf", "(LShadedBooks$Orders;I)I"⟩
abbrev cX2_takenOf : ByteArray := prog_4_method_6_code
def yX2_takenOf : MethodName := ⟨RX2, "takenOf", "(LShadedBooks$Orders;I)I"⟩
abbrev cX2_gainOf : ByteArray := prog_4_method_7_code
def yX2_gainOf : MethodName := ⟨RX2, "gainOf", "(LShadedBooks$Auction;II)I"⟩
abbrev cX2_pairOff : ByteArray := prog_4_method_8_code
def yX2_pairOff : MethodName := ⟨RX2, "pairOff", "(LShadedBooks$Orders;LShadedBooks$Trades;)V"⟩
abbrev cX2_queueUp : ByteArray := prog_4_method_9_code
def yX2_queueUp : MethodName := ⟨RX2, "queueUp", "(LShadedBooks$Row;LShadedBooks$Orders;I)I"⟩
abbrev cX2_findRange : ByteArray := prog_4_method_10_code
def yX2_findRange : MethodName := ⟨RX2, "findRange", "(LShadedBooks$Orders;)V"⟩
abbrev cX2_tallyPrices : ByteArray := prog_4_method_11_code
def yX2_tallyPrices : MethodName := ⟨RX2, "tallyPrices", "(LShadedBooks$Orders;)I"⟩
abbrev cX2_take : ByteArray := prog_4_method_12_code
def yX2_take : MethodName := ⟨RX2, "take", "(LShadedBooks$Row;ILShadedBooks$Orders;)V"⟩
abbrev cX2_sumSurplus : ByteArray := prog_4_method_13_code
def yX2_sumSurplus : MethodName := ⟨RX2, "sumSurplus", "(LShadedBooks$Auction;)I"⟩
abbrev cX2_findGreatest : ByteArray := prog_4_method_14_code
def yX2_findGreatest : MethodName := ⟨RX2, "findGreatest", "(LShadedBooks$Auction;)I"⟩
abbrev cX2_tallyValues : ByteArray := prog_4_method_15_code
def yX2_tallyValues : MethodName := ⟨RX2, "tallyValues", "(LShadedBooks$Auction;)V"⟩
abbrev cX2_hundredthsOf : ByteArray := prog_4_method_16_code
def yX2_hundredthsOf : MethodName := ⟨RX2, "hundredthsOf", "(I)I"⟩
def RX3 : String := "ShadedBooks$CommandText"
def TX3 : u_T := fun k => match k with
  | 0 => ("ShadedBooks$CommandText", "length", "I", false)
  | 1 => ("ShadedBooks$CommandText", "word", "LShadedBooks$Word;", false)
  | 2 => ("ShadedBooks$CommandText", "numbers", "LShadedBooks$Row;", true)
  | 3 => ("ShadedBooks$CommandText", "bytes", "LShadedBooks$Row;", true)
  | 4 => ("ShadedBooks$CommandText", "cursor", "I", false)
  | _ => ("ShadedBooks$CommandText", "fault", "I", false)
def tyX3 : Nat → FieldType := fun k => match k with
  | 0 => .int
  | 1 => .object "ShadedBooks$Word"
  | 2 => .object "ShadedBooks$Row"
  | 3 => .object "ShadedBooks$Row"
  | 4 => .int
  | _ => .int
abbrev wsX30 : List Cond := u_ws RX3 TX3 6
theorem nmX3 : ∀ a, a < 6 → ∀ b, b < 6 → a ≠ b → (TX3 a).2.1 ≠ (TX3 b).2.1 := by decide +kernel
theorem tyX3_ok : ∀ k, k < 6 → parseFieldDescriptor (TX3 k).2.2.1 = some (tyX3 k) := by decide +kernel
abbrev cX3_init : ByteArray := prog_5_method_1_code
def yX3_init : MethodName := ⟨RX3, "<init>", "()V"⟩
abbrev cX3_faultOfByte : ByteArray := prog_5_method_2_code
def yX3_faultOfByte : MethodName := ⟨RX3, "faultOfByte", "(I)I"⟩
abbrev cX3_append : ByteArray := prog_5_method_3_code
def yX3_append : MethodName := ⟨RX3, "append", "(I)I"⟩
abbrev cX3_empty : ByteArray := prog_5_method_4_code
def yX3_empty : MethodName := ⟨RX3, "empty", "()I"⟩
abbrev cX3_rewind : ByteArray := prog_5_method_5_code
def yX3_rewind : MethodName := ⟨RX3, "rewind", "()V"⟩
abbrev cX3_findFault : ByteArray := prog_5_method_6_code
def yX3_findFault : MethodName := ⟨RX3, "findFault", "()I"⟩
abbrev cX3_readCommand : ByteArray := prog_5_method_7_code
def yX3_readCommand : MethodName := ⟨RX3, "readCommand", "()Z"⟩
abbrev cX3_byteAt : ByteArray := prog_5_method_8_code
def yX3_byteAt : MethodName := ⟨RX3, "byteAt", "(I)I"⟩
abbrev cX3_skipSpaces : ByteArray := prog_5_method_9_code
def yX3_skipSpaces : MethodName := ⟨RX3, "skipSpaces", "()V"⟩
abbrev cX3_readByte : ByteArray := prog_5_method_10_code
def yX3_readByte : MethodName := ⟨RX3, "readByte", "(I)Z"⟩
abbrev cX3_readWord : ByteArray := prog_5_method_11_code
def yX3_readWord : MethodName := ⟨RX3, "readWord", "()Z"⟩
abbrev cX3_readNumber : ByteArray := prog_5_method_12_code
def yX3_readNumber : MethodName := ⟨RX3, "readNumber", "(I)Z"⟩
def RX4 : String := "ShadedBooks$Orders"
def TX4 : u_T := fun k => match k with
  | 0 => ("ShadedBooks$Orders", "count", "I", false)
  | 1 => ("ShadedBooks$Orders", "number", "LShadedBooks$Row;", true)
  | 2 => ("ShadedBooks$Orders", "trader", "LShadedBooks$Row;", true)
  | 3 => ("ShadedBooks$Orders", "side", "LShadedBooks$Row;", true)
  | 4 => ("ShadedBooks$Orders", "price", "LShadedBooks$Row;", true)
  | 5 => ("ShadedBooks$Orders", "units", "LShadedBooks$Row;", true)
  | _ => ("ShadedBooks$Orders", "round", "LShadedBooks$Row;", true)
def tyX4 : Nat → FieldType := fun k => match k with
  | 0 => .int
  | 1 => .object "ShadedBooks$Row"
  | 2 => .object "ShadedBooks$Row"
  | 3 => .object "ShadedBooks$Row"
  | 4 => .object "ShadedBooks$Row"
  | 5 => .object "ShadedBooks$Row"
  | _ => .object "ShadedBooks$Row"
abbrev wsX40 : List Cond := u_ws RX4 TX4 7
theorem nmX4 : ∀ a, a < 7 → ∀ b, b < 7 → a ≠ b → (TX4 a).2.1 ≠ (TX4 b).2.1 := by decide +kernel
theorem tyX4_ok : ∀ k, k < 7 → parseFieldDescriptor (TX4 k).2.2.1 = some (tyX4 k) := by decide +kernel
abbrev cX4_init : ByteArray := prog_6_method_1_code
def yX4_init : MethodName := ⟨RX4, "<init>", "()V"⟩
abbrev cX4_isFull : ByteArray := prog_6_method_2_code
def yX4_isFull : MethodName := ⟨RX4, "isFull", "()Z"⟩
abbrev cX4_indexOf : ByteArray := prog_6_method_3_code
def yX4_indexOf : MethodName := ⟨RX4, "indexOf", "(I)I"⟩
abbrev cX4_faultOfNumber : ByteArray := prog_6_method_4_code
def yX4_faultOfNumber : MethodName := ⟨RX4, "faultOfNumber", "(I)I"⟩
abbrev cX4_append : ByteArray := prog_6_method_5_code
def yX4_append : MethodName := ⟨RX4, "append", "(IIIIII)V"⟩
abbrev cX4_withdraw : ByteArray := prog_6_method_6_code
def yX4_withdraw : MethodName := ⟨RX4, "withdraw", "(I)I"⟩
abbrev cX4_removeAt : ByteArray := prog_6_method_7_code
def yX4_removeAt : MethodName := ⟨RX4, "removeAt", "(I)V"⟩
abbrev cX4_isAhead : ByteArray := prog_6_method_8_code
def yX4_isAhead : MethodName := ⟨RX4, "isAhead", "(II)Z"⟩
abbrev cX4_placeOf : ByteArray := prog_6_method_9_code
def yX4_placeOf : MethodName := ⟨RX4, "placeOf", "(I)I"⟩
abbrev cX4_accepts : ByteArray := prog_6_method_10_code
def yX4_accepts : MethodName := ⟨RX4, "accepts", "(II)Z"⟩
abbrev cX4_unitsAt : ByteArray := prog_6_method_11_code
def yX4_unitsAt : MethodName := ⟨RX4, "unitsAt", "(II)I"⟩
abbrev cX4_bookValue : ByteArray := prog_6_method_12_code
def yX4_bookValue : MethodName := ⟨RX4, "bookValue", "(II)I"⟩
abbrev cX4_countOf : ByteArray := prog_6_method_13_code
def yX4_countOf : MethodName := ⟨RX4, "countOf", "(I)I"⟩
abbrev cX4_unitsOf : ByteArray := prog_6_method_14_code
def yX4_unitsOf : MethodName := ⟨RX4, "unitsOf", "(I)I"⟩
abbrev cX4_valueOf : ByteArray := prog_6_method_15_code
def yX4_valueOf : MethodName := ⟨RX4, "valueOf", "(II)I"⟩
abbrev cX4_removeEmpty : ByteArray := prog_6_method_16_code
def yX4_removeEmpty : MethodName := ⟨RX4, "removeEmpty", "()V"⟩
abbrev cX4_removeUpTo : ByteArray := prog_6_method_17_code
def yX4_removeUpTo : MethodName := ⟨RX4, "removeUpTo", "(I)I"⟩
abbrev cX4_copyFrom : ByteArray := prog_6_method_18_code
def yX4_copyFrom : MethodName := ⟨RX4, "copyFrom", "(LShadedBooks$Orders;)V"⟩
def RX5 : String := "ShadedBooks$Row"
def TX5 : u_T := fun k => match k with
  | _ => ("ShadedBooks$Row", "cells", "[I", true)
def tyX5 : Nat → FieldType := fun k => match k with
  | _ => .array .int
abbrev wsX50 : List Cond := u_ws RX5 TX5 1
theorem nmX5 : ∀ a, a < 1 → ∀ b, b < 1 → a ≠ b → (TX5 a).2.1 ≠ (TX5 b).2.1 := by decide +kernel
theorem tyX5_ok : ∀ k, k < 1 → parseFieldDescriptor (TX5 k).2.2.1 = some (tyX5 k) := by decide +kernel
abbrev cX5_init : ByteArray := prog_7_method_1_code
def yX5_init : MethodName := ⟨RX5, "<init>", "(I)V"⟩
abbrev cX5_get : ByteArray := prog_7_method_2_code
def yX5_get : MethodName := ⟨RX5, "get", "(I)I"⟩
abbrev cX5_put : ByteArray := prog_7_method_3_code
def yX5_put : MethodName := ⟨RX5, "put", "(II)V"⟩
abbrev cX5_add : ByteArray := prog_7_method_4_code
def yX5_add : MethodName := ⟨RX5, "add", "(II)V"⟩
abbrev cX5_fillWithZeros : ByteArray := prog_7_method_5_code
def yX5_fillWithZeros : MethodName := ⟨RX5, "fillWithZeros", "()V"⟩
abbrev cX5_removeAt : ByteArray := prog_7_method_6_code
def yX5_removeAt : MethodName := ⟨RX5, "removeAt", "(I)V"⟩
abbrev cX5_copyFrom : ByteArray := prog_7_method_7_code
def yX5_copyFrom : MethodName := ⟨RX5, "copyFrom", "(LShadedBooks$Row;)V"⟩
def RX6 : String := "ShadedBooks$Traders"
def TX6 : u_T := fun k => match k with
  | 0 => ("ShadedBooks$Traders", "count", "I", false)
  | 1 => ("ShadedBooks$Traders", "side", "LShadedBooks$Row;", true)
  | 2 => ("ShadedBooks$Traders", "value", "LShadedBooks$Row;", true)
  | 3 => ("ShadedBooks$Traders", "kind", "LShadedBooks$Row;", true)
  | 4 => ("ShadedBooks$Traders", "amount", "LShadedBooks$Row;", true)
  | 5 => ("ShadedBooks$Traders", "traded", "LShadedBooks$Row;", true)
  | 6 => ("ShadedBooks$Traders", "gains", "LShadedBooks$Row;", true)
  | _ => ("ShadedBooks$Traders", "money", "LShadedBooks$Row;", true)
def tyX6 : Nat → FieldType := fun k => match k with
  | 0 => .int
  | 1 => .object "ShadedBooks$Row"
  | 2 => .object "ShadedBooks$Row"
  | 3 => .object "ShadedBooks$Row"
  | 4 => .object "ShadedBooks$Row"
  | 5 => .object "ShadedBooks$Row"
  | 6 => .object "ShadedBooks$Row"
  | _ => .object "ShadedBooks$Row"
abbrev wsX60 : List Cond := u_ws RX6 TX6 8
theorem nmX6 : ∀ a, a < 8 → ∀ b, b < 8 → a ≠ b → (TX6 a).2.1 ≠ (TX6 b).2.1 := by decide +kernel
theorem tyX6_ok : ∀ k, k < 8 → parseFieldDescriptor (TX6 k).2.2.1 = some (tyX6 k) := by decide +kernel
abbrev cX6_init : ByteArray := prog_8_method_1_code
def yX6_init : MethodName := ⟨RX6, "<init>", "()V"⟩
abbrev cX6_has : ByteArray := prog_8_method_2_code
def yX6_has : MethodName := ⟨RX6, "has", "(I)Z"⟩
abbrev cX6_faultOfNumber : ByteArray := prog_8_method_3_code
def yX6_faultOfNumber : MethodName := ⟨RX6, "faultOfNumber", "(I)I"⟩
abbrev cX6_join : ByteArray := prog_8_method_4_code
def yX6_join : MethodName := ⟨RX6, "join", "(II)I"⟩
abbrev cX6_shadeBy : ByteArray := prog_8_method_5_code
def yX6_shadeBy : MethodName := ⟨RX6, "shadeBy", "(III)V"⟩
abbrev cX6_bidOf : ByteArray := prog_8_method_6_code
def yX6_bidOf : MethodName := ⟨RX6, "bidOf", "(I)I"⟩
abbrev cX6_bidWith : ByteArray := prog_8_method_7_code
def yX6_bidWith : MethodName := ⟨RX6, "bidWith", "(II)I"⟩
abbrev cX6_gainPerUnit : ByteArray := prog_8_method_8_code
def yX6_gainPerUnit : MethodName := ⟨RX6, "gainPerUnit", "(II)I"⟩
abbrev cX6_book : ByteArray := prog_8_method_9_code
def yX6_book : MethodName := ⟨RX6, "book", "(III)V"⟩
abbrev cX6_learn : ByteArray := prog_8_method_10_code
def yX6_learn : MethodName := ⟨RX6, "learn", "(III)V"⟩
abbrev cX6_copyFrom : ByteArray := prog_8_method_11_code
def yX6_copyFrom : MethodName := ⟨RX6, "copyFrom", "(LShadedBooks$Traders;)V"⟩
abbrev cX6_shadeOf : ByteArray := prog_8_method_12_code
def yX6_shadeOf : MethodName := ⟨RX6, "shadeOf", "(I)I"⟩
def RX7 : String := "ShadedBooks$Trades"
def TX7 : u_T := fun k => match k with
  | 0 => ("ShadedBooks$Trades", "count", "I", false)
  | 1 => ("ShadedBooks$Trades", "bought", "LShadedBooks$Row;", true)
  | 2 => ("ShadedBooks$Trades", "sold", "LShadedBooks$Row;", true)
  | 3 => ("ShadedBooks$Trades", "units", "LShadedBooks$Row;", true)
  | 4 => ("ShadedBooks$Trades", "buyer", "LShadedBooks$Row;", true)
  | _ => ("ShadedBooks$Trades", "seller", "LShadedBooks$Row;", true)
def tyX7 : Nat → FieldType := fun k => match k with
  | 0 => .int
  | 1 => .object "ShadedBooks$Row"
  | 2 => .object "ShadedBooks$Row"
  | 3 => .object "ShadedBooks$Row"
  | 4 => .object "ShadedBooks$Row"
  | _ => .object "ShadedBooks$Row"
abbrev wsX70 : List Cond := u_ws RX7 TX7 6
theorem nmX7 : ∀ a, a < 6 → ∀ b, b < 6 → a ≠ b → (TX7 a).2.1 ≠ (TX7 b).2.1 := by decide +kernel
theorem tyX7_ok : ∀ k, k < 6 → parseFieldDescriptor (TX7 k).2.2.1 = some (tyX7 k) := by decide +kernel
abbrev cX7_init : ByteArray := prog_9_method_1_code
def yX7_init : MethodName := ⟨RX7, "<init>", "()V"⟩
abbrev cX7_append : ByteArray := prog_9_method_2_code
def yX7_append : MethodName := ⟨RX7, "append", "(LShadedBooks$Orders;III)V"⟩
abbrev cX7_valueOf : ByteArray := prog_9_method_3_code
def yX7_valueOf : MethodName := ⟨RX7, "valueOf", "(II)I"⟩
abbrev cX7_copyFrom : ByteArray := prog_9_method_4_code
def yX7_copyFrom : MethodName := ⟨RX7, "copyFrom", "(LShadedBooks$Trades;)V"⟩
def RX8 : String := "ShadedBooks$UndoStack"
def TX8 : u_T := fun k => match k with
  | 0 => ("ShadedBooks$UndoStack", "count", "I", false)
  | 1 => ("ShadedBooks$UndoStack", "oldest", "I", false)
  | _ => ("ShadedBooks$UndoStack", "states", "[LShadedBooks$Auction;", true)
def tyX8 : Nat → FieldType := fun k => match k with
  | 0 => .int
  | 1 => .int
  | _ => .array (.object "ShadedBooks$Auction")
abbrev wsX80 : List Cond := u_ws RX8 TX8 3
theorem nmX8 : ∀ a, a < 3 → ∀ b, b < 3 → a ≠ b → (TX8 a).2.1 ≠ (TX8 b).2.1 := by decide +kernel
theorem tyX8_ok : ∀ k, k < 3 → parseFieldDescriptor (TX8 k).2.2.1 = some (tyX8 k) := by decide +kernel
abbrev cX8_init : ByteArray := prog_10_method_1_code
def yX8_init : MethodName := ⟨RX8, "<init>", "()V"⟩
abbrev cX8_push : ByteArray := prog_10_method_2_code
def yX8_push : MethodName := ⟨RX8, "push", "(LShadedBooks$Auction;)V"⟩
abbrev cX8_pop : ByteArray := prog_10_method_3_code
def yX8_pop : MethodName := ⟨RX8, "pop", "(LShadedBooks$Auction;)V"⟩
abbrev cX8_placeOf : ByteArray := prog_10_method_4_code
def yX8_placeOf : MethodName := ⟨RX8, "placeOf", "(I)LShadedBooks$Auction;"⟩
def RX9 : String := "ShadedBooks$Word"
def TX9 : u_T := fun k => match k with
  | _ => ("", "", "", false)
def tyX9 : Nat → FieldType := fun k => match k with
  | _ => .int
abbrev wsX90 : List Cond := u_ws RX9 TX9 0
theorem nmX9 : ∀ a, a < 0 → ∀ b, b < 0 → a ≠ b → (TX9 a).2.1 ≠ (TX9 b).2.1 := by decide +kernel
theorem tyX9_ok : ∀ k, k < 0 → parseFieldDescriptor (TX9 k).2.2.1 = some (tyX9 k) := by decide +kernel
abbrev cX9_of : ByteArray := prog_11_method_4_code
def yX9_of : MethodName := ⟨RX9, "of", "(LShadedBooks$Row;II)LShadedBooks$Word;"⟩
abbrev cX9_stands : ByteArray := prog_11_method_5_code
def yX9_stands : MethodName := ⟨RX9, "stands", "(LShadedBooks$Row;II)Z"⟩
def RX10 : String := "ShadedBooks"
def TX10 : u_T := fun k => match k with
  | 0 => ("ShadedBooks", "auction", "LShadedBooks$Auction;", true)
  | 1 => ("ShadedBooks", "trial", "LShadedBooks$Auction;", true)
  | 2 => ("ShadedBooks", "clearing", "LShadedBooks$Clearing;", true)
  | 3 => ("ShadedBooks", "saved", "LShadedBooks$UndoStack;", true)
  | _ => ("ShadedBooks", "commands", "LShadedBooks$CommandText;", true)
def tyX10 : Nat → FieldType := fun k => match k with
  | 0 => .object "ShadedBooks$Auction"
  | 1 => .object "ShadedBooks$Auction"
  | 2 => .object "ShadedBooks$Clearing"
  | 3 => .object "ShadedBooks$UndoStack"
  | _ => .object "ShadedBooks$CommandText"
abbrev wsX100 : List Cond := u_ws RX10 TX10 5
theorem nmX10 : ∀ a, a < 5 → ∀ b, b < 5 → a ≠ b → (TX10 a).2.1 ≠ (TX10 b).2.1 := by decide +kernel
theorem tyX10_ok : ∀ k, k < 5 → parseFieldDescriptor (TX10 k).2.2.1 = some (tyX10 k) := by decide +kernel
abbrev cX10_init : ByteArray := prog_1_method_1_code
def yX10_init : MethodName := ⟨RX10, "<init>", "()V"⟩
abbrev cX10_addTrader : ByteArray := prog_1_method_2_code
def yX10_addTrader : MethodName := ⟨RX10, "addTrader", "(II)I"⟩
abbrev cX10_setValue : ByteArray := prog_1_method_3_code
def yX10_setValue : MethodName := ⟨RX10, "setValue", "(II)I"⟩
abbrev cX10_setShade : ByteArray := prog_1_method_4_code
def yX10_setShade : MethodName := ⟨RX10, "setShade", "(III)I"⟩
abbrev cX10_set : ByteArray := prog_1_method_5_code
def yX10_set : MethodName := ⟨RX10, "set", "(II)I"⟩
abbrev cX10_bid : ByteArray := prog_1_method_6_code
def yX10_bid : MethodName := ⟨RX10, "bid", "(II)I"⟩
abbrev cX10_order : ByteArray := prog_1_method_7_code
def yX10_order : MethodName := ⟨RX10, "order", "(III)I"⟩
abbrev cX10_cancel : ByteArray := prog_1_method_8_code
def yX10_cancel : MethodName := ⟨RX10, "cancel", "(I)I"⟩
abbrev cX10_clear : ByteArray := prog_1_method_9_code
def yX10_clear : MethodName := ⟨RX10, "clear", "()I"⟩
abbrev cX10_trader : ByteArray := prog_1_method_10_code
def yX10_trader : MethodName := ⟨RX10, "trader", "(II)I"⟩
abbrev cX10_orderOf : ByteArray := prog_1_method_11_code
def yX10_orderOf : MethodName := ⟨RX10, "orderOf", "(II)I"⟩
abbrev cX10_trade : ByteArray := prog_1_method_12_code
def yX10_trade : MethodName := ⟨RX10, "trade", "(II)I"⟩
abbrev cX10_at : ByteArray := prog_1_method_13_code
def yX10_at : MethodName := ⟨RX10, "at", "(II)I"⟩
abbrev cX10_now : ByteArray := prog_1_method_14_code
def yX10_now : MethodName := ⟨RX10, "now", "(I)I"⟩
abbrev cX10_whole : ByteArray := prog_1_method_15_code
def yX10_whole : MethodName := ⟨RX10, "whole", "(I)I"⟩
abbrev cX10_filled : ByteArray := prog_1_method_16_code
def yX10_filled : MethodName := ⟨RX10, "filled", "(I)I"⟩
abbrev cX10_reason : ByteArray := prog_1_method_17_code
def yX10_reason : MethodName := ⟨RX10, "reason", "(I)I"⟩
abbrev cX10_gainWith : ByteArray := prog_1_method_18_code
def yX10_gainWith : MethodName := ⟨RX10, "gainWith", "(II)I"⟩
abbrev cX10_bestShade : ByteArray := prog_1_method_19_code
def yX10_bestShade : MethodName := ⟨RX10, "bestShade", "(I)I"⟩
abbrev cX10_bestSplit : ByteArray := prog_1_method_20_code
def yX10_bestSplit : MethodName := ⟨RX10, "bestSplit", "(I)I"⟩
abbrev cX10_goneIn : ByteArray := prog_1_method_21_code
def yX10_goneIn : MethodName := ⟨RX10, "goneIn", "(I)I"⟩
abbrev cX10_type : ByteArray := prog_1_method_22_code
def yX10_type : MethodName := ⟨RX10, "type", "(I)I"⟩
abbrev cX10_clearCommands : ByteArray := prog_1_method_23_code
def yX10_clearCommands : MethodName := ⟨RX10, "clearCommands", "()I"⟩
abbrev cX10_runCommands : ByteArray := prog_1_method_24_code
def yX10_runCommands : MethodName := ⟨RX10, "runCommands", "()I"⟩
abbrev cX10_undo : ByteArray := prog_1_method_25_code
def yX10_undo : MethodName := ⟨RX10, "undo", "()I"⟩
abbrev cX10_digest : ByteArray := prog_1_method_26_code
def yX10_digest : MethodName := ⟨RX10, "digest", "()J"⟩
abbrev cX10_mix : ByteArray := prog_1_method_27_code
def yX10_mix : MethodName := ⟨RX10, "mix", "(JJ)J"⟩
abbrev cX10_mixTraders : ByteArray := prog_1_method_28_code
def yX10_mixTraders : MethodName := ⟨RX10, "mixTraders", "(J)J"⟩
abbrev cX10_mixOrders : ByteArray := prog_1_method_29_code
def yX10_mixOrders : MethodName := ⟨RX10, "mixOrders", "(J)J"⟩
abbrev cX10_mixTrades : ByteArray := prog_1_method_30_code
def yX10_mixTrades : MethodName := ⟨RX10, "mixTrades", "(J)J"⟩
abbrev cX10_refuse : ByteArray := prog_1_method_31_code
def yX10_refuse : MethodName := ⟨RX10, "refuse", "(I)V"⟩
abbrev cX10_isWithin : ByteArray := prog_1_method_32_code
def yX10_isWithin : MethodName := ⟨RX10, "isWithin", "(III)Z"⟩
abbrev cX10_faultOfWhat : ByteArray := prog_1_method_33_code
def yX10_faultOfWhat : MethodName := ⟨RX10, "faultOfWhat", "(II)I"⟩
abbrev cX10_faultOfPrice : ByteArray := prog_1_method_34_code
def yX10_faultOfPrice : MethodName := ⟨RX10, "faultOfPrice", "(I)I"⟩
abbrev cX10_wholeValue : ByteArray := prog_1_method_35_code
def yX10_wholeValue : MethodName := ⟨RX10, "wholeValue", "(I)I"⟩
abbrev cX10_bestShadeOfLastOrder : ByteArray := prog_1_method_36_code
def yX10_bestShadeOfLastOrder : MethodName := ⟨RX10, "bestShadeOfLastOrder", "(I)I"⟩
abbrev cX10_faultOfCommand : ByteArray := prog_1_method_37_code
def yX10_faultOfCommand : MethodName := ⟨RX10, "faultOfCommand", "()I"⟩
abbrev cX10_carryOutCommand : ByteArray := prog_1_method_38_code
def yX10_carryOutCommand : MethodName := ⟨RX10, "carryOutCommand", "()V"⟩
def RX11 : String := "ShadedBooksModel"
def TX11 : u_T := fun k => match k with
  | 0 => ("ShadedBooksModel", "now", "[I", true)
  | 1 => ("ShadedBooksModel", "kept", "[I", true)
  | 2 => ("ShadedBooksModel", "states", "I", false)
  | 3 => ("ShadedBooksModel", "thrown", "I", false)
  | 4 => ("ShadedBooksModel", "lowest", "I", false)
  | 5 => ("ShadedBooksModel", "highest", "I", false)
  | 6 => ("ShadedBooksModel", "price", "I", false)
  | 7 => ("ShadedBooksModel", "volume", "I", false)
  | 8 => ("ShadedBooksModel", "text", "[I", true)
  | 9 => ("ShadedBooksModel", "length", "I", false)
  | 10 => ("ShadedBooksModel", "at", "I", false)
  | 11 => ("ShadedBooksModel", "kind", "I", false)
  | 12 => ("ShadedBooksModel", "numbers", "[I", true)
  | _ => ("ShadedBooksModel", "fills", "[I", true)
def tyX11 : Nat → FieldType := fun k => match k with
  | 0 => .array .int
  | 1 => .array .int
  | 2 => .int
  | 3 => .int
  | 4 => .int
  | 5 => .int
  | 6 => .int
  | 7 => .int
  | 8 => .array .int
  | 9 => .int
  | 10 => .int
  | 11 => .int
  | 12 => .array .int
  | _ => .array .int
abbrev wsX110 : List Cond := u_ws RX11 TX11 14
theorem nmX11 : ∀ a, a < 14 → ∀ b, b < 14 → a ≠ b → (TX11 a).2.1 ≠ (TX11 b).2.1 := by decide +kernel
theorem tyX11_ok : ∀ k, k < 14 → parseFieldDescriptor (TX11 k).2.2.1 = some (tyX11 k) := by decide +kernel
abbrev cX11_init : ByteArray := prog_13_method_1_code
def yX11_init : MethodName := ⟨RX11, "<init>", "()V"⟩
abbrev cX11_thrown : ByteArray := prog_13_method_2_code
def yX11_thrown : MethodName := ⟨RX11, "thrown", "()I"⟩
abbrev cX11_isIn : ByteArray := prog_13_method_3_code
def yX11_isIn : MethodName := ⟨RX11, "isIn", "(III)Z"⟩
abbrev cX11_ofT : ByteArray := prog_13_method_4_code
def yX11_ofT : MethodName := ⟨RX11, "ofT", "(II)I"⟩
abbrev cX11_setsT : ByteArray := prog_13_method_5_code
def yX11_setsT : MethodName := ⟨RX11, "setsT", "(III)V"⟩
abbrev cX11_ofO : ByteArray := prog_13_method_6_code
def yX11_ofO : MethodName := ⟨RX11, "ofO", "(II)I"⟩
abbrev cX11_setsO : ByteArray := prog_13_method_7_code
def yX11_setsO : MethodName := ⟨RX11, "setsO", "(III)V"⟩
abbrev cX11_isTrader : ByteArray := prog_13_method_8_code
def yX11_isTrader : MethodName := ⟨RX11, "isTrader", "(I)Z"⟩
abbrev cX11_find : ByteArray := prog_13_method_9_code
def yX11_find : MethodName := ⟨RX11, "find", "(I)I"⟩
abbrev cX11_keeps : ByteArray := prog_13_method_10_code
def yX11_keeps : MethodName := ⟨RX11, "keeps", "(I)V"⟩
abbrev cX11_brings : ByteArray := prog_13_method_11_code
def yX11_brings : MethodName := ⟨RX11, "brings", "(I)V"⟩
abbrev cX11_records : ByteArray := prog_13_method_12_code
def yX11_records : MethodName := ⟨RX11, "records", "()V"⟩
abbrev cX11_undo : ByteArray := prog_13_method_13_code
def yX11_undo : MethodName := ⟨RX11, "undo", "()I"⟩
abbrev cX11_traderError : ByteArray := prog_13_method_14_code
def yX11_traderError : MethodName := ⟨RX11, "traderError", "(II)I"⟩
abbrev cX11_addsTrader : ByteArray := prog_13_method_15_code
def yX11_addsTrader : MethodName := ⟨RX11, "addsTrader", "(II)I"⟩
abbrev cX11_addTrader : ByteArray := prog_13_method_16_code
def yX11_addTrader : MethodName := ⟨RX11, "addTrader", "(II)I"⟩
abbrev cX11_setValue : ByteArray := prog_13_method_17_code
def yX11_setValue : MethodName := ⟨RX11, "setValue", "(II)I"⟩
abbrev cX11_bidBy : ByteArray := prog_13_method_18_code
def yX11_bidBy : MethodName := ⟨RX11, "bidBy", "(II)I"⟩
abbrev cX11_bidOf : ByteArray := prog_13_method_19_code
def yX11_bidOf : MethodName := ⟨RX11, "bidOf", "(I)I"⟩
abbrev cX11_shadeError : ByteArray := prog_13_method_20_code
def yX11_shadeError : MethodName := ⟨RX11, "shadeError", "(III)I"⟩
abbrev cX11_shades : ByteArray := prog_13_method_21_code
def yX11_shades : MethodName := ⟨RX11, "shades", "(III)I"⟩
abbrev cX11_setShade : ByteArray := prog_13_method_22_code
def yX11_setShade : MethodName := ⟨RX11, "setShade", "(III)I"⟩
abbrev cX11_settingError : ByteArray := prog_13_method_23_code
def yX11_settingError : MethodName := ⟨RX11, "settingError", "(II)I"⟩
abbrev cX11_sets : ByteArray := prog_13_method_24_code
def yX11_sets : MethodName := ⟨RX11, "sets", "(II)I"⟩
abbrev cX11_set : ByteArray := prog_13_method_25_code
def yX11_set : MethodName := ⟨RX11, "set", "(II)I"⟩
abbrev cX11_orderError : ByteArray := prog_13_method_26_code
def yX11_orderError : MethodName := ⟨RX11, "orderError", "(III)I"⟩
abbrev cX11_places : ByteArray := prog_13_method_27_code
def yX11_places : MethodName := ⟨RX11, "places", "(III)I"⟩
abbrev cX11_bid : ByteArray := prog_13_method_28_code
def yX11_bid : MethodName := ⟨RX11, "bid", "(II)I"⟩
abbrev cX11_order : ByteArray := prog_13_method_29_code
def yX11_order : MethodName := ⟨RX11, "order", "(III)I"⟩
abbrev cX11_removes : ByteArray := prog_13_method_30_code
def yX11_removes : MethodName := ⟨RX11, "removes", "(I)V"⟩
abbrev cX11_cancels : ByteArray := prog_13_method_31_code
def yX11_cancels : MethodName := ⟨RX11, "cancels", "(I)I"⟩
abbrev cX11_cancel : ByteArray := prog_13_method_32_code
def yX11_cancel : MethodName := ⟨RX11, "cancel", "(I)I"⟩
abbrev cX11_sideOf : ByteArray := prog_13_method_33_code
def yX11_sideOf : MethodName := ⟨RX11, "sideOf", "(I)I"⟩
abbrev cX11_isGood : ByteArray := prog_13_method_34_code
def yX11_isGood : MethodName := ⟨RX11, "isGood", "(II)Z"⟩
abbrev cX11_unitsAt : ByteArray := prog_13_method_35_code
def yX11_unitsAt : MethodName := ⟨RX11, "unitsAt", "(II)I"⟩
abbrev cX11_volumeAt : ByteArray := prog_13_method_36_code
def yX11_volumeAt : MethodName := ⟨RX11, "volumeAt", "(I)I"⟩
abbrev cX11_finds : ByteArray := prog_13_method_37_code
def yX11_finds : MethodName := ⟨RX11, "finds", "()V"⟩
abbrev cX11_isAhead : ByteArray := prog_13_method_38_code
def yX11_isAhead : MethodName := ⟨RX11, "isAhead", "(II)Z"⟩
abbrev cX11_placeOf : ByteArray := prog_13_method_39_code
def yX11_placeOf : MethodName := ⟨RX11, "placeOf", "(I)I"⟩
abbrev cX11_fillOf : ByteArray := prog_13_method_40_code
def yX11_fillOf : MethodName := ⟨RX11, "fillOf", "(I)I"⟩
abbrev cX11_gainOf : ByteArray := prog_13_method_41_code
def yX11_gainOf : MethodName := ⟨RX11, "gainOf", "(I)I"⟩
abbrev cX11_gainsOf : ByteArray := prog_13_method_42_code
def yX11_gainsOf : MethodName := ⟨RX11, "gainsOf", "(I)I"⟩
abbrev cX11_surplusNow : ByteArray := prog_13_method_43_code
def yX11_surplusNow : MethodName := ⟨RX11, "surplusNow", "()I"⟩
abbrev cX11_unitsBy : ByteArray := prog_13_method_44_code
def yX11_unitsBy : MethodName := ⟨RX11, "unitsBy", "(II)I"⟩
abbrev cX11_greatest : ByteArray := prog_13_method_45_code
def yX11_greatest : MethodName := ⟨RX11, "greatest", "()I"⟩
abbrev cX11_orderAt : ByteArray := prog_13_method_46_code
def yX11_orderAt : MethodName := ⟨RX11, "orderAt", "(II)I"⟩
abbrev cX11_adds : ByteArray := prog_13_method_47_code
def yX11_adds : MethodName := ⟨RX11, "adds", "(III)V"⟩
abbrev cX11_trades : ByteArray := prog_13_method_48_code
def yX11_trades : MethodName := ⟨RX11, "trades", "()V"⟩
abbrev cX11_outcome : ByteArray := prog_13_method_49_code
def yX11_outcome : MethodName := ⟨RX11, "outcome", "(I)I"⟩
abbrev cX11_learns : ByteArray := prog_13_method_50_code
def yX11_learns : MethodName := ⟨RX11, "learns", "(I)V"⟩
abbrev cX11_settles : ByteArray := prog_13_method_51_code
def yX11_settles : MethodName := ⟨RX11, "settles", "(I)V"⟩
abbrev cX11_empties : ByteArray := prog_13_method_52_code
def yX11_empties : MethodName := ⟨RX11, "empties", "()V"⟩
abbrev cX11_clears : ByteArray := prog_13_method_53_code
def yX11_clears : MethodName := ⟨RX11, "clears", "()I"⟩
abbrev cX11_clearError : ByteArray := prog_13_method_54_code
def yX11_clearError : MethodName := ⟨RX11, "clearError", "()I"⟩
abbrev cX11_clear : ByteArray := prog_13_method_55_code
def yX11_clear : MethodName := ⟨RX11, "clear", "()I"⟩
abbrev cX11_ordersOf : ByteArray := prog_13_method_56_code
def yX11_ordersOf : MethodName := ⟨RX11, "ordersOf", "(IZ)I"⟩
abbrev cX11_tellsTrader : ByteArray := prog_13_method_57_code
def yX11_tellsTrader : MethodName := ⟨RX11, "tellsTrader", "(II)I"⟩
abbrev cX11_trader : ByteArray := prog_13_method_58_code
def yX11_trader : MethodName := ⟨RX11, "trader", "(II)I"⟩
abbrev cX11_tellsOrder : ByteArray := prog_13_method_59_code
def yX11_tellsOrder : MethodName := ⟨RX11, "tellsOrder", "(II)I"⟩
abbrev cX11_orderOf : ByteArray := prog_13_method_60_code
def yX11_orderOf : MethodName := ⟨RX11, "orderOf", "(II)I"⟩
abbrev cX11_trade : ByteArray := prog_13_method_61_code
def yX11_trade : MethodName := ⟨RX11, "trade", "(II)I"⟩
abbrev cX11_at : ByteArray := prog_13_method_62_code
def yX11_at : MethodName := ⟨RX11, "at", "(II)I"⟩
abbrev cX11_share : ByteArray := prog_13_method_63_code
def yX11_share : MethodName := ⟨RX11, "share", "(II)I"⟩
abbrev cX11_tellsNow : ByteArray := prog_13_method_64_code
def yX11_tellsNow : MethodName := ⟨RX11, "tellsNow", "(I)I"⟩
abbrev cX11_now : ByteArray := prog_13_method_65_code
def yX11_now : MethodName := ⟨RX11, "now", "(I)I"⟩
abbrev cX11_tellsWhole : ByteArray := prog_13_method_66_code
def yX11_tellsWhole : MethodName := ⟨RX11, "tellsWhole", "(I)I"⟩
abbrev cX11_whole : ByteArray := prog_13_method_67_code
def yX11_whole : MethodName := ⟨RX11, "whole", "(I)I"⟩
abbrev cX11_filledOf : ByteArray := prog_13_method_68_code
def yX11_filledOf : MethodName := ⟨RX11, "filledOf", "(I)I"⟩
abbrev cX11_filled : ByteArray := prog_13_method_69_code
def yX11_filled : MethodName := ⟨RX11, "filled", "(I)I"⟩
abbrev cX11_reason : ByteArray := prog_13_method_70_code
def yX11_reason : MethodName := ⟨RX11, "reason", "(I)I"⟩
abbrev cX11_gainBy : ByteArray := prog_13_method_71_code
def yX11_gainBy : MethodName := ⟨RX11, "gainBy", "(II)I"⟩
abbrev cX11_gainWith : ByteArray := prog_13_method_72_code
def yX11_gainWith : MethodName := ⟨RX11, "gainWith", "(II)I"⟩
abbrev cX11_bestShade : ByteArray := prog_13_method_73_code
def yX11_bestShade : MethodName := ⟨RX11, "bestShade", "(I)I"⟩
abbrev cX11_bestSplit : ByteArray := prog_13_method_74_code
def yX11_bestSplit : MethodName := ⟨RX11, "bestSplit", "(I)I"⟩
abbrev cX11_goneIn : ByteArray := prog_13_method_75_code
def yX11_goneIn : MethodName := ⟨RX11, "goneIn", "(I)I"⟩
abbrev cX11_type : ByteArray := prog_13_method_76_code
def yX11_type : MethodName := ⟨RX11, "type", "(I)I"⟩
abbrev cX11_clearCommands : ByteArray := prog_13_method_77_code
def yX11_clearCommands : MethodName := ⟨RX11, "clearCommands", "()I"⟩
abbrev cX11_isHere : ByteArray := prog_13_method_78_code
def yX11_isHere : MethodName := ⟨RX11, "isHere", "(II)Z"⟩
abbrev cX11_passesSpaces : ByteArray := prog_13_method_79_code
def yX11_passesSpaces : MethodName := ⟨RX11, "passesSpaces", "()V"⟩
abbrev cX11_readsWord : ByteArray := prog_13_method_80_code
def yX11_readsWord : MethodName := ⟨RX11, "readsWord", "()I"⟩
abbrev cX11_codeOf : ByteArray := prog_13_method_81_code
def yX11_codeOf : MethodName := ⟨RX11, "codeOf", "(IIIIII)I"⟩
abbrev cX11_kindOf : ByteArray := prog_13_method_82_code
def yX11_kindOf : MethodName := ⟨RX11, "kindOf", "(I)I"⟩
abbrev cX11_manyOf : ByteArray := prog_13_method_83_code
def yX11_manyOf : MethodName := ⟨RX11, "manyOf", "(I)I"⟩
abbrev cX11_passesNumber : ByteArray := prog_13_method_84_code
def yX11_passesNumber : MethodName := ⟨RX11, "passesNumber", "(I)Z"⟩
abbrev cX11_passesCommand : ByteArray := prog_13_method_85_code
def yX11_passesCommand : MethodName := ⟨RX11, "passesCommand", "()Z"⟩
abbrev cX11_faultOf : ByteArray := prog_13_method_86_code
def yX11_faultOf : MethodName := ⟨RX11, "faultOf", "()I"⟩
abbrev cX11_does : ByteArray := prog_13_method_87_code
def yX11_does : MethodName := ⟨RX11, "does", "()I"⟩
abbrev cX11_runCommands : ByteArray := prog_13_method_88_code
def yX11_runCommands : MethodName := ⟨RX11, "runCommands", "()I"⟩
abbrev cX11_digestTrader : ByteArray := prog_13_method_89_code
def yX11_digestTrader : MethodName := ⟨RX11, "digestTrader", "(JI)J"⟩
abbrev cX11_digestOrder : ByteArray := prog_13_method_90_code
def yX11_digestOrder : MethodName := ⟨RX11, "digestOrder", "(JI)J"⟩
abbrev cX11_digest : ByteArray := prog_13_method_91_code
def yX11_digest : MethodName := ⟨RX11, "digest", "()J"⟩
def RJx29ce0 : String := "java/lang/Enum"
def TJx29ce0 : u_T := fun k => match k with
  | _ => ("", "", "", false)
def tyJx29ce0 : Nat → FieldType := fun k => match k with
  | _ => .int
abbrev wsJx29ce00 : List Cond := u_ws RJx29ce0 TJx29ce0 0
theorem nmJx29ce0 : ∀ a, a < 0 → ∀ b, b < 0 → a ≠ b → (TJx29ce0 a).2.1 ≠ (TJx29ce0 b).2.1 := by decide +kernel
theorem tyJx29ce0_ok : ∀ k, k < 0 → parseFieldDescriptor (TJx29ce0 k).2.2.1 = some (tyJx29ce0 k) := by decide +kernel
abbrev cJx29ce0_ordinal_8abf5 : ByteArray := prog_14_method_2_code
def yJx29ce0_ordinal_8abf5 : MethodName := ⟨RJx29ce0, "ordinal", "()I"⟩
def RJ9 : String := "java/lang/Math"
def TJ9 : u_T := fun k => match k with
  | _ => ("", "", "", false)
def tyJ9 : Nat → FieldType := fun k => match k with
  | _ => .int
abbrev wsJ90 : List Cond := u_ws RJ9 TJ9 0
theorem nmJ9 : ∀ a, a < 0 → ∀ b, b < 0 → a ≠ b → (TJ9 a).2.1 ≠ (TJ9 b).2.1 := by decide +kernel
theorem tyJ9_ok : ∀ k, k < 0 → parseFieldDescriptor (TJ9 k).2.2.1 = some (tyJ9 k) := by decide +kernel
abbrev cJ9_floorMod_7cf53 : ByteArray := prog_19_method_50_code
def yJ9_floorMod_7cf53 : MethodName := ⟨RJ9, "floorMod", "(II)I"⟩
abbrev cJ9_max_7cf53 : ByteArray := prog_19_method_65_code
def yJ9_max_7cf53 : MethodName := ⟨RJ9, "max", "(II)I"⟩
abbrev cJ9_min_7cf53 : ByteArray := prog_19_method_69_code
def yJ9_min_7cf53 : MethodName := ⟨RJ9, "min", "(II)I"⟩
def RJ0 : String := "java/lang/String"
def TJ0 : u_T := fun k => match k with
  | _ => ("", "", "", false)
def tyJ0 : Nat → FieldType := fun k => match k with
  | _ => .int
abbrev wsJ00 : List Cond := u_ws RJ0 TJ0 0
theorem nmJ0 : ∀ a, a < 0 → ∀ b, b < 0 → a ≠ b → (TJ0 a).2.1 ≠ (TJ0 b).2.1 := by decide +kernel
theorem tyJ0_ok : ∀ k, k < 0 → parseFieldDescriptor (TJ0 k).2.2.1 = some (tyJ0 k) := by decide +kernel
abbrev cJ0_length_8abf5 : ByteArray := prog_21_method_54_code
def yJ0_length_8abf5 : MethodName := ⟨RJ0, "length", "()I"⟩
abbrev cJ0_charAt_5068e : ByteArray := prog_21_method_56_code
def yJ0_charAt_5068e : MethodName := ⟨RJ0, "charAt", "(I)C"⟩
abbrev cJ0_coder_7d493 : ByteArray := prog_21_method_152_code
def yJ0_coder_7d493 : MethodName := ⟨RJ0, "coder", "()B"⟩
abbrev cJ0_isLatin1_aae02 : ByteArray := prog_21_method_154_code
def yJ0_isLatin1_aae02 : MethodName := ⟨RJ0, "isLatin1", "()Z"⟩
abbrev cJ0_checkIndex_df160 : ByteArray := prog_21_method_155_code
def yJ0_checkIndex_df160 : MethodName := ⟨RJ0, "checkIndex", "(II)V"⟩
def RJ1 : String := "java/lang/StringLatin1"
def TJ1 : u_T := fun k => match k with
  | _ => ("", "", "", false)
def tyJ1 : Nat → FieldType := fun k => match k with
  | _ => .int
abbrev wsJ10 : List Cond := u_ws RJ1 TJ1 0
theorem nmJ1 : ∀ a, a < 0 → ∀ b, b < 0 → a ≠ b → (TJ1 a).2.1 ≠ (TJ1 b).2.1 := by decide +kernel
theorem tyJ1_ok : ∀ k, k < 0 → parseFieldDescriptor (TJ1 k).2.2.1 = some (tyJ1 k) := by decide +kernel
abbrev cJ1_charAt_3b067 : ByteArray := prog_22_method_2_code
def yJ1_charAt_3b067 : MethodName := ⟨RJ1, "charAt", "([BI)C"⟩
def RJ2 : String := "java/lang/StringUTF16"
def TJ2 : u_T := fun k => match k with
  | _ => ("", "", "", false)
def tyJ2 : Nat → FieldType := fun k => match k with
  | _ => .int
abbrev wsJ20 : List Cond := u_ws RJ2 TJ2 0
theorem nmJ2 : ∀ a, a < 0 → ∀ b, b < 0 → a ≠ b → (TJ2 a).2.1 ≠ (TJ2 b).2.1 := by decide +kernel
theorem tyJ2_ok : ∀ k, k < 0 → parseFieldDescriptor (TJ2 k).2.2.1 = some (tyJ2 k) := by decide +kernel
abbrev cJ2_getChar_3b067 : ByteArray := prog_23_method_5_code
def yJ2_getChar_3b067 : MethodName := ⟨RJ2, "getChar", "([BI)C"⟩
abbrev cJ2_length_9d52b : ByteArray := prog_23_method_6_code
def yJ2_length_9d52b : MethodName := ⟨RJ2, "length", "([B)I"⟩
abbrev cJ2_charAt_3b067 : ByteArray := prog_23_method_83_code
def yJ2_charAt_3b067 : MethodName := ⟨RJ2, "charAt", "([BI)C"⟩
abbrev cJ2_checkIndex_2214a : ByteArray := prog_23_method_91_code
def yJ2_checkIndex_2214a : MethodName := ⟨RJ2, "checkIndex", "(I[B)V"⟩
def RJ3 : String := "jdk/internal/util/Preconditions"
def TJ3 : u_T := fun k => match k with
  | _ => ("", "", "", false)
def tyJ3 : Nat → FieldType := fun k => match k with
  | _ => .int
abbrev wsJ30 : List Cond := u_ws RJ3 TJ3 0
theorem nmJ3 : ∀ a, a < 0 → ∀ b, b < 0 → a ≠ b → (TJ3 a).2.1 ≠ (TJ3 b).2.1 := by decide +kernel
theorem tyJ3_ok : ∀ k, k < 0 → parseFieldDescriptor (TJ3 k).2.2.1 = some (tyJ3 k) := by decide +kernel
abbrev cJ3_checkIndex_8e157 : ByteArray := prog_25_method_11_code
def yJ3_checkIndex_8e157 : MethodName := ⟨RJ3, "checkIndex", "(IILjava/util/function/BiFunction;)I"⟩
def RL : String := "ShadedBooksLaw"
abbrev cL_addTrader : ByteArray := method_3_code
def yL_addTrader : MethodName := ⟨RL, "addTrader", "(LShadedBooks;II[J)I"⟩
abbrev cL_setValue : ByteArray := method_4_code
def yL_setValue : MethodName := ⟨RL, "setValue", "(LShadedBooks;II[J)I"⟩
abbrev cL_setShade : ByteArray := method_5_code
def yL_setShade : MethodName := ⟨RL, "setShade", "(LShadedBooks;III[J)I"⟩
abbrev cL_set : ByteArray := method_6_code
def yL_set : MethodName := ⟨RL, "set", "(LShadedBooks;II[J)I"⟩
abbrev cL_bid : ByteArray := method_7_code
def yL_bid : MethodName := ⟨RL, "bid", "(LShadedBooks;II[J)I"⟩
abbrev cL_order : ByteArray := method_8_code
def yL_order : MethodName := ⟨RL, "order", "(LShadedBooks;III[J)I"⟩
abbrev cL_cancel : ByteArray := method_9_code
def yL_cancel : MethodName := ⟨RL, "cancel", "(LShadedBooks;I[J)I"⟩
abbrev cL_clear : ByteArray := method_10_code
def yL_clear : MethodName := ⟨RL, "clear", "(LShadedBooks;[J)I"⟩
abbrev cL_trader : ByteArray := method_11_code
def yL_trader : MethodName := ⟨RL, "trader", "(LShadedBooks;II[J)I"⟩
abbrev cL_orderOf : ByteArray := method_12_code
def yL_orderOf : MethodName := ⟨RL, "orderOf", "(LShadedBooks;II[J)I"⟩
abbrev cL_trade : ByteArray := method_13_code
def yL_trade : MethodName := ⟨RL, "trade", "(LShadedBooks;II[J)I"⟩
abbrev cL_at : ByteArray := method_14_code
def yL_at : MethodName := ⟨RL, "at", "(LShadedBooks;II[J)I"⟩
abbrev cL_now : ByteArray := method_15_code
def yL_now : MethodName := ⟨RL, "now", "(LShadedBooks;I[J)I"⟩
abbrev cL_whole : ByteArray := method_16_code
def yL_whole : MethodName := ⟨RL, "whole", "(LShadedBooks;I[J)I"⟩
abbrev cL_filled : ByteArray := method_17_code
def yL_filled : MethodName := ⟨RL, "filled", "(LShadedBooks;I[J)I"⟩
abbrev cL_reason : ByteArray := method_18_code
def yL_reason : MethodName := ⟨RL, "reason", "(LShadedBooks;I[J)I"⟩
abbrev cL_gainWith : ByteArray := method_19_code
def yL_gainWith : MethodName := ⟨RL, "gainWith", "(LShadedBooks;II[J)I"⟩
abbrev cL_bestShade : ByteArray := method_20_code
def yL_bestShade : MethodName := ⟨RL, "bestShade", "(LShadedBooks;I[J)I"⟩
abbrev cL_bestSplit : ByteArray := method_21_code
def yL_bestSplit : MethodName := ⟨RL, "bestSplit", "(LShadedBooks;I[J)I"⟩
abbrev cL_goneIn : ByteArray := method_22_code
def yL_goneIn : MethodName := ⟨RL, "goneIn", "(LShadedBooks;I[J)I"⟩
abbrev cL_type : ByteArray := method_23_code
def yL_type : MethodName := ⟨RL, "type", "(LShadedBooks;I[J)I"⟩
abbrev cL_undo : ByteArray := method_24_code
def yL_undo : MethodName := ⟨RL, "undo", "(LShadedBooks;[J)I"⟩
abbrev cL_law : ByteArray := code
def yL_law : MethodName := ⟨RL, "law", "([I)Z"⟩
theorem dX1_init_0 : decode cX1_init 0 = .ok (.aload_n 0, 1) := by decide +kernel
theorem dX1_init_1 : decode cX1_init 1 = .ok (.invokespecial 3, 3) := by decide +kernel
theorem dX1_init_4 : decode cX1_init 4 = .ok (.aload_n 0, 1) := by decide +kernel
theorem dX1_init_5 : decode cX1_init 5 = .ok (.new 9, 3) := by decide +kernel
theorem dX1_init_8 : decode cX1_init 8 = .ok (.dup, 1) := by decide +kernel
theorem dX1_init_9 : decode cX1_init 9 = .ok (.invokespecial 11, 3) := by decide +kernel
theorem dX1_init_12 : decode cX1_init 12 = .ok (.putfield 12, 3) := by decide +kernel
theorem dX1_init_15 : decode cX1_init 15 = .ok (.aload_n 0, 1) := by decide +kernel
theorem dX1_init_16 : decode cX1_init 16 = .ok (.new 18, 3) := by decide +kernel
theorem dX1_init_19 : decode cX1_init 19 = .ok (.dup, 1) := by decide +kernel
theorem dX1_init_20 : decode cX1_init 20 = .ok (.invokespecial 20, 3) := by decide +kernel
theorem dX1_init_23 : decode cX1_init 23 = .ok (.putfield 21, 3) := by decide +kernel
theorem dX1_init_26 : decode cX1_init 26 = .ok (.aload_n 0, 1) := by decide +kernel
theorem dX1_init_27 : decode cX1_init 27 = .ok (.new 25, 3) := by decide +kernel
theorem dX1_init_30 : decode cX1_init 30 = .ok (.dup, 1) := by decide +kernel
theorem dX1_init_31 : decode cX1_init 31 = .ok (.invokespecial 27, 3) := by decide +kernel
theorem dX1_init_34 : decode cX1_init 34 = .ok (.putfield 28, 3) := by decide +kernel
theorem dX1_init_37 : decode cX1_init 37 = .ok (.aload_n 0, 1) := by decide +kernel
theorem dX1_init_38 : decode cX1_init 38 = .ok (.iconst 5, 1) := by decide +kernel
theorem dX1_init_39 : decode cX1_init 39 = .ok (.putfield 32, 3) := by decide +kernel
theorem dX1_init_42 : decode cX1_init 42 = .ok (.aload_n 0, 1) := by decide +kernel
theorem dX1_init_43 : decode cX1_init 43 = .ok (.iconst 3, 1) := by decide +kernel
theorem dX1_init_44 : decode cX1_init 44 = .ok (.putfield 36, 3) := by decide +kernel
theorem dX1_init_47 : decode cX1_init 47 = .ok (.aload_n 0, 1) := by decide +kernel
theorem dX1_init_48 : decode cX1_init 48 = .ok (.sipush (-10000), 3) := by decide +kernel
theorem dX1_init_51 : decode cX1_init 51 = .ok (.putfield 39, 3) := by decide +kernel
theorem dX1_init_54 : decode cX1_init 54 = .ok (.return_, 1) := by decide +kernel
theorem dX1_faultOfJoin_0 : decode cX1_faultOfJoin 0 = .ok (.iload_n 1, 1) := by decide +kernel
theorem dX1_faultOfJoin_1 : decode cX1_faultOfJoin 1 = .ok (.iconst 0, 1) := by decide +kernel
theorem dX1_faultOfJoin_2 : decode cX1_faultOfJoin 2 = .ok (.iconst 1, 1) := by decide +kernel
theorem dX1_faultOfJoin_3 : decode cX1_faultOfJoin 3 = .ok (.invokestatic 42, 3) := by decide +kernel
theorem dX1_faultOfJoin_6 : decode cX1_faultOfJoin 6 = .ok (.ifCond .eq 13, 3) := by decide +kernel
theorem dX1_faultOfJoin_9 : decode cX1_faultOfJoin 9 = .ok (.iload_n 2, 1) := by decide +kernel
theorem dX1_faultOfJoin_10 : decode cX1_faultOfJoin 10 = .ok (.iconst 1, 1) := by decide +kernel
theorem dX1_faultOfJoin_11 : decode cX1_faultOfJoin 11 = .ok (.bipush 99, 2) := by decide +kernel
theorem dX1_faultOfJoin_13 : decode cX1_faultOfJoin 13 = .ok (.invokestatic 42, 3) := by decide +kernel
theorem dX1_faultOfJoin_16 : decode cX1_faultOfJoin 16 = .ok (.ifCond .ne 5, 3) := by decide +kernel
theorem dX1_faultOfJoin_19 : decode cX1_faultOfJoin 19 = .ok (.iconst 2, 1) := by decide +kernel
theorem dX1_faultOfJoin_20 : decode cX1_faultOfJoin 20 = .ok (.ireturn, 1) := by decide +kernel
theorem dX1_faultOfJoin_21 : decode cX1_faultOfJoin 21 = .ok (.aload_n 0, 1) := by decide +kernel
theorem dX1_faultOfJoin_22 : decode cX1_faultOfJoin 22 = .ok (.getfield 12, 3) := by decide +kernel
theorem dX1_faultOfJoin_25 : decode cX1_faultOfJoin 25 = .ok (.getfield 46, 3) := by decide +kernel
theorem dX1_faultOfJoin_28 : decode cX1_faultOfJoin 28 = .ok (.bipush 8, 2) := by decide +kernel
theorem dX1_faultOfJoin_30 : decode cX1_faultOfJoin 30 = .ok (.if_icmp .lt 7, 3) := by decide +kernel
theorem dX1_faultOfJoin_33 : decode cX1_faultOfJoin 33 = .ok (.iconst 3, 1) := by decide +kernel
theorem dX1_faultOfJoin_34 : decode cX1_faultOfJoin 34 = .ok (.goto 4, 3) := by decide +kernel
theorem dX1_faultOfJoin_37 : decode cX1_faultOfJoin 37 = .ok (.iconst 0, 1) := by decide +kernel
theorem dX1_faultOfJoin_38 : decode cX1_faultOfJoin 38 = .ok (.ireturn, 1) := by decide +kernel
theorem dX1_faultOfValue_0 : decode cX1_faultOfValue 0 = .ok (.aload_n 0, 1) := by decide +kernel
theorem dX1_faultOfValue_1 : decode cX1_faultOfValue 1 = .ok (.getfield 12, 3) := by decide +kernel
theorem dX1_faultOfValue_4 : decode cX1_faultOfValue 4 = .ok (.iload_n 1, 1) := by decide +kernel
theorem dX1_faultOfValue_5 : decode cX1_faultOfValue 5 = .ok (.invokevirtual 49, 3) := by decide +kernel
theorem dX1_faultOfValue_8 : decode cX1_faultOfValue 8 = .ok (.ifCond .ne 5, 3) := by decide +kernel
theorem dX1_faultOfValue_11 : decode cX1_faultOfValue 11 = .ok (.iconst 1, 1) := by decide +kernel
theorem dX1_faultOfValue_12 : decode cX1_faultOfValue 12 = .ok (.ireturn, 1) := by decide +kernel
theorem dX1_faultOfValue_13 : decode cX1_faultOfValue 13 = .ok (.iload_n 2, 1) := by decide +kernel
theorem dX1_faultOfValue_14 : decode cX1_faultOfValue 14 = .ok (.iconst 1, 1) := by decide +kernel
theorem dX1_faultOfValue_15 : decode cX1_faultOfValue 15 = .ok (.bipush 99, 2) := by decide +kernel
theorem dX1_faultOfValue_17 : decode cX1_faultOfValue 17 = .ok (.invokestatic 42, 3) := by decide +kernel
theorem dX1_faultOfValue_20 : decode cX1_faultOfValue 20 = .ok (.ifCond .eq 7, 3) := by decide +kernel
theorem dX1_faultOfValue_23 : decode cX1_faultOfValue 23 = .ok (.iconst 0, 1) := by decide +kernel
theorem dX1_faultOfValue_24 : decode cX1_faultOfValue 24 = .ok (.goto 4, 3) := by decide +kernel
theorem dX1_faultOfValue_27 : decode cX1_faultOfValue 27 = .ok (.iconst 2, 1) := by decide +kernel
theorem dX1_faultOfValue_28 : decode cX1_faultOfValue 28 = .ok (.ireturn, 1) := by decide +kernel
theorem dX1_faultOfShade_0 : decode cX1_faultOfShade 0 = .ok (.aload_n 0, 1) := by decide +kernel
theorem dX1_faultOfShade_1 : decode cX1_faultOfShade 1 = .ok (.getfield 12, 3) := by decide +kernel
theorem dX1_faultOfShade_4 : decode cX1_faultOfShade 4 = .ok (.iload_n 1, 1) := by decide +kernel
theorem dX1_faultOfShade_5 : decode cX1_faultOfShade 5 = .ok (.invokevirtual 49, 3) := by decide +kernel
theorem dX1_faultOfShade_8 : decode cX1_faultOfShade 8 = .ok (.ifCond .ne 5, 3) := by decide +kernel
theorem dX1_faultOfShade_11 : decode cX1_faultOfShade 11 = .ok (.iconst 1, 1) := by decide +kernel
theorem dX1_faultOfShade_12 : decode cX1_faultOfShade 12 = .ok (.ireturn, 1) := by decide +kernel
theorem dX1_faultOfShade_13 : decode cX1_faultOfShade 13 = .ok (.iload_n 2, 1) := by decide +kernel
theorem dX1_faultOfShade_14 : decode cX1_faultOfShade 14 = .ok (.iconst 0, 1) := by decide +kernel
theorem dX1_faultOfShade_15 : decode cX1_faultOfShade 15 = .ok (.iconst 3, 1) := by decide +kernel
theorem dX1_faultOfShade_16 : decode cX1_faultOfShade 16 = .ok (.invokestatic 42, 3) := by decide +kernel
theorem dX1_faultOfShade_19 : decode cX1_faultOfShade 19 = .ok (.ifCond .eq 17, 3) := by decide +kernel
theorem dX1_faultOfShade_22 : decode cX1_faultOfShade 22 = .ok (.iload_n 3, 1) := by decide +kernel
theorem dX1_faultOfShade_23 : decode cX1_faultOfShade 23 = .ok (.iconst 0, 1) := by decide +kernel
theorem dX1_faultOfShade_24 : decode cX1_faultOfShade 24 = .ok (.bipush 50, 2) := by decide +kernel
theorem dX1_faultOfShade_26 : decode cX1_faultOfShade 26 = .ok (.invokestatic 42, 3) := by decide +kernel
theorem dX1_faultOfShade_29 : decode cX1_faultOfShade 29 = .ok (.ifCond .eq 7, 3) := by decide +kernel
theorem dX1_faultOfShade_32 : decode cX1_faultOfShade 32 = .ok (.iconst 0, 1) := by decide +kernel
theorem dX1_faultOfShade_33 : decode cX1_faultOfShade 33 = .ok (.goto 4, 3) := by decide +kernel
theorem dX1_faultOfShade_36 : decode cX1_faultOfShade 36 = .ok (.iconst 2, 1) := by decide +kernel
theorem dX1_faultOfShade_37 : decode cX1_faultOfShade 37 = .ok (.ireturn, 1) := by decide +kernel
theorem dX1_faultOfSetting_0 : decode cX1_faultOfSetting 0 = .ok (.iload_n 1, 1) := by decide +kernel
theorem dX1_faultOfSetting_1 : decode cX1_faultOfSetting 1 = .ok (.ifCond .ne 19, 3) := by decide +kernel
theorem dX1_faultOfSetting_4 : decode cX1_faultOfSetting 4 = .ok (.iload_n 2, 1) := by decide +kernel
theorem dX1_faultOfSetting_5 : decode cX1_faultOfSetting 5 = .ok (.iconst 0, 1) := by decide +kernel
theorem dX1_faultOfSetting_6 : decode cX1_faultOfSetting 6 = .ok (.bipush 10, 2) := by decide +kernel
theorem dX1_faultOfSetting_8 : decode cX1_faultOfSetting 8 = .ok (.invokestatic 42, 3) := by decide +kernel
theorem dX1_faultOfSetting_11 : decode cX1_faultOfSetting 11 = .ok (.ifCond .eq 7, 3) := by decide +kernel
theorem dX1_faultOfSetting_14 : decode cX1_faultOfSetting 14 = .ok (.iconst 0, 1) := by decide +kernel
theorem dX1_faultOfSetting_15 : decode cX1_faultOfSetting 15 = .ok (.goto 4, 3) := by decide +kernel
theorem dX1_faultOfSetting_18 : decode cX1_faultOfSetting 18 = .ok (.iconst 2, 1) := by decide +kernel
theorem dX1_faultOfSetting_19 : decode cX1_faultOfSetting 19 = .ok (.ireturn, 1) := by decide +kernel
theorem dX1_faultOfSetting_20 : decode cX1_faultOfSetting 20 = .ok (.iload_n 1, 1) := by decide +kernel
theorem dX1_faultOfSetting_21 : decode cX1_faultOfSetting 21 = .ok (.iconst 1, 1) := by decide +kernel
theorem dX1_faultOfSetting_22 : decode cX1_faultOfSetting 22 = .ok (.if_icmp .ne 17, 3) := by decide +kernel
theorem dX1_faultOfSetting_25 : decode cX1_faultOfSetting 25 = .ok (.iload_n 2, 1) := by decide +kernel
theorem dX1_faultOfSetting_26 : decode cX1_faultOfSetting 26 = .ok (.iconst 1, 1) := by decide +kernel
theorem dX1_faultOfSetting_27 : decode cX1_faultOfSetting 27 = .ok (.bipush 9, 2) := by decide +kernel
theorem dX1_faultOfSetting_29 : decode cX1_faultOfSetting 29 = .ok (.invokestatic 42, 3) := by decide +kernel
theorem dX1_faultOfSetting_32 : decode cX1_faultOfSetting 32 = .ok (.ifCond .eq 7, 3) := by decide +kernel
theorem dX1_faultOfSetting_35 : decode cX1_faultOfSetting 35 = .ok (.iconst 0, 1) := by decide +kernel
theorem dX1_faultOfSetting_36 : decode cX1_faultOfSetting 36 = .ok (.goto 4, 3) := by decide +kernel
theorem dX1_faultOfSetting_39 : decode cX1_faultOfSetting 39 = .ok (.iconst 2, 1) := by decide +kernel
theorem dX1_faultOfSetting_40 : decode cX1_faultOfSetting 40 = .ok (.ireturn, 1) := by decide +kernel
theorem dX1_faultOfBid_0 : decode cX1_faultOfBid 0 = .ok (.aload_n 0, 1) := by decide +kernel
theorem dX1_faultOfBid_1 : decode cX1_faultOfBid 1 = .ok (.iload_n 1, 1) := by decide +kernel
theorem dX1_faultOfBid_2 : decode cX1_faultOfBid 2 = .ok (.iconst 1, 1) := by decide +kernel
theorem dX1_faultOfBid_3 : decode cX1_faultOfBid 3 = .ok (.iload_n 2, 1) := by decide +kernel
theorem dX1_faultOfBid_4 : decode cX1_faultOfBid 4 = .ok (.invokevirtual 53, 3) := by decide +kernel
theorem dX1_faultOfBid_7 : decode cX1_faultOfBid 7 = .ok (.ireturn, 1) := by decide +kernel
theorem dX1_faultOfOrder_0 : decode cX1_faultOfOrder 0 = .ok (.aload_n 0, 1) := by decide +kernel
theorem dX1_faultOfOrder_1 : decode cX1_faultOfOrder 1 = .ok (.getfield 12, 3) := by decide +kernel
theorem dX1_faultOfOrder_4 : decode cX1_faultOfOrder 4 = .ok (.iload_n 1, 1) := by decide +kernel
theorem dX1_faultOfOrder_5 : decode cX1_faultOfOrder 5 = .ok (.invokevirtual 49, 3) := by decide +kernel
theorem dX1_faultOfOrder_8 : decode cX1_faultOfOrder 8 = .ok (.ifCond .ne 5, 3) := by decide +kernel
theorem dX1_faultOfOrder_11 : decode cX1_faultOfOrder 11 = .ok (.iconst 1, 1) := by decide +kernel
theorem dX1_faultOfOrder_12 : decode cX1_faultOfOrder 12 = .ok (.ireturn, 1) := by decide +kernel
theorem dX1_faultOfOrder_13 : decode cX1_faultOfOrder 13 = .ok (.iload_n 2, 1) := by decide +kernel
theorem dX1_faultOfOrder_14 : decode cX1_faultOfOrder 14 = .ok (.iconst 1, 1) := by decide +kernel
theorem dX1_faultOfOrder_15 : decode cX1_faultOfOrder 15 = .ok (.bipush 120, 2) := by decide +kernel
theorem dX1_faultOfOrder_17 : decode cX1_faultOfOrder 17 = .ok (.invokestatic 42, 3) := by decide +kernel
theorem dX1_faultOfOrder_20 : decode cX1_faultOfOrder 20 = .ok (.ifCond .eq 13, 3) := by decide +kernel
theorem dX1_faultOfOrder_23 : decode cX1_faultOfOrder 23 = .ok (.iload_n 3, 1) := by decide +kernel
theorem dX1_faultOfOrder_24 : decode cX1_faultOfOrder 24 = .ok (.iconst 1, 1) := by decide +kernel
theorem dX1_faultOfOrder_25 : decode cX1_faultOfOrder 25 = .ok (.bipush 9, 2) := by decide +kernel
theorem dX1_faultOfOrder_27 : decode cX1_faultOfOrder 27 = .ok (.invokestatic 42, 3) := by decide +kernel
theorem dX1_faultOfOrder_30 : decode cX1_faultOfOrder 30 = .ok (.ifCond .ne 5, 3) := by decide +kernel
theorem dX1_faultOfOrder_33 : decode cX1_faultOfOrder 33 = .ok (.iconst 2, 1) := by decide +kernel
theorem dX1_faultOfOrder_34 : decode cX1_faultOfOrder 34 = .ok (.ireturn, 1) := by decide +kernel
theorem dX1_faultOfOrder_35 : decode cX1_faultOfOrder 35 = .ok (.aload_n 0, 1) := by decide +kernel
theorem dX1_faultOfOrder_36 : decode cX1_faultOfOrder 36 = .ok (.getfield 21, 3) := by decide +kernel
theorem dX1_faultOfOrder_39 : decode cX1_faultOfOrder 39 = .ok (.invokevirtual 57, 3) := by decide +kernel
theorem dX1_faultOfOrder_42 : decode cX1_faultOfOrder 42 = .ok (.ifCond .eq 7, 3) := by decide +kernel
theorem dX1_faultOfOrder_45 : decode cX1_faultOfOrder 45 = .ok (.iconst 3, 1) := by decide +kernel
theorem dX1_faultOfOrder_46 : decode cX1_faultOfOrder 46 = .ok (.goto 4, 3) := by decide +kernel
theorem dX1_faultOfOrder_49 : decode cX1_faultOfOrder 49 = .ok (.iconst 0, 1) := by decide +kernel
theorem dX1_faultOfOrder_50 : decode cX1_faultOfOrder 50 = .ok (.ireturn, 1) := by decide +kernel
theorem dX1_faultOfRound_0 : decode cX1_faultOfRound 0 = .ok (.aload_n 0, 1) := by decide +kernel
theorem dX1_faultOfRound_1 : decode cX1_faultOfRound 1 = .ok (.getfield 61, 3) := by decide +kernel
theorem dX1_faultOfRound_4 : decode cX1_faultOfRound 4 = .ok (.sipush 9999, 3) := by decide +kernel
theorem dX1_faultOfRound_7 : decode cX1_faultOfRound 7 = .ok (.if_icmp .lt 7, 3) := by decide +kernel
theorem dX1_faultOfRound_10 : decode cX1_faultOfRound 10 = .ok (.iconst 3, 1) := by decide +kernel
theorem dX1_faultOfRound_11 : decode cX1_faultOfRound 11 = .ok (.goto 4, 3) := by decide +kernel
theorem dX1_faultOfRound_14 : decode cX1_faultOfRound 14 = .ok (.iconst 0, 1) := by decide +kernel
theorem dX1_faultOfRound_15 : decode cX1_faultOfRound 15 = .ok (.ireturn, 1) := by decide +kernel
theorem dX1_change_0 : decode cX1_change 0 = .ok (.iload_n 1, 1) := by decide +kernel
theorem dX1_change_1 : decode cX1_change 1 = .ok (.ifCond .ne 10, 3) := by decide +kernel
theorem dX1_change_4 : decode cX1_change 4 = .ok (.aload_n 0, 1) := by decide +kernel
theorem dX1_change_5 : decode cX1_change 5 = .ok (.getfield 32, 3) := by decide +kernel
theorem dX1_change_8 : decode cX1_change 8 = .ok (.goto 7, 3) := by decide +kernel
theorem dX1_change_11 : decode cX1_change 11 = .ok (.aload_n 0, 1) := by decide +kernel
theorem dX1_change_12 : decode cX1_change 12 = .ok (.getfield 36, 3) := by decide +kernel
theorem dX1_change_15 : decode cX1_change 15 = .ok (.istore_n 3, 1) := by decide +kernel
theorem dX1_change_16 : decode cX1_change 16 = .ok (.iload_n 1, 1) := by decide +kernel
theorem dX1_change_17 : decode cX1_change 17 = .ok (.ifCond .ne 11, 3) := by decide +kernel
theorem dX1_change_20 : decode cX1_change 20 = .ok (.aload_n 0, 1) := by decide +kernel
theorem dX1_change_21 : decode cX1_change 21 = .ok (.iload_n 2, 1) := by decide +kernel
theorem dX1_change_22 : decode cX1_change 22 = .ok (.putfield 32, 3) := by decide +kernel
theorem dX1_change_25 : decode cX1_change 25 = .ok (.goto 8, 3) := by decide +kernel
theorem dX1_change_28 : decode cX1_change 28 = .ok (.aload_n 0, 1) := by decide +kernel
theorem dX1_change_29 : decode cX1_change 29 = .ok (.iload_n 2, 1) := by decide +kernel
theorem dX1_change_30 : decode cX1_change 30 = .ok (.putfield 36, 3) := by decide +kernel
theorem dX1_change_33 : decode cX1_change 33 = .ok (.iload_n 3, 1) := by decide +kernel
theorem dX1_change_34 : decode cX1_change 34 = .ok (.ireturn, 1) := by decide +kernel
theorem dX1_place_0 : decode cX1_place 0 = .ok (.aload_n 0, 1) := by decide +kernel
theorem dX1_place_1 : decode cX1_place 1 = .ok (.getfield 21, 3) := by decide +kernel
theorem dX1_place_4 : decode cX1_place 4 = .ok (.aload_n 0, 1) := by decide +kernel
theorem dX1_place_5 : decode cX1_place 5 = .ok (.getfield 64, 3) := by decide +kernel
theorem dX1_place_8 : decode cX1_place 8 = .ok (.iload_n 1, 1) := by decide +kernel
theorem dX1_place_9 : decode cX1_place 9 = .ok (.aload_n 0, 1) := by decide +kernel
theorem dX1_place_10 : decode cX1_place 10 = .ok (.getfield 12, 3) := by decide +kernel
theorem dX1_place_13 : decode cX1_place 13 = .ok (.getfield 67, 3) := by decide +kernel
theorem dX1_place_16 : decode cX1_place 16 = .ok (.iload_n 1, 1) := by decide +kernel
theorem dX1_place_17 : decode cX1_place 17 = .ok (.invokevirtual 71, 3) := by decide +kernel
theorem dX1_place_20 : decode cX1_place 20 = .ok (.iload_n 2, 1) := by decide +kernel
theorem dX1_place_21 : decode cX1_place 21 = .ok (.iload_n 3, 1) := by decide +kernel
theorem dX1_place_22 : decode cX1_place 22 = .ok (.aload_n 0, 1) := by decide +kernel
theorem dX1_place_23 : decode cX1_place 23 = .ok (.getfield 61, 3) := by decide +kernel
theorem dX1_place_26 : decode cX1_place 26 = .ok (.invokevirtual 77, 3) := by decide +kernel
theorem dX1_place_29 : decode cX1_place 29 = .ok (.aload_n 0, 1) := by decide +kernel
theorem dX1_place_30 : decode cX1_place 30 = .ok (.dup, 1) := by decide +kernel
theorem dX1_place_31 : decode cX1_place 31 = .ok (.getfield 64, 3) := by decide +kernel
theorem dX1_place_34 : decode cX1_place 34 = .ok (.iconst 1, 1) := by decide +kernel
theorem dX1_place_35 : decode cX1_place 35 = .ok (.iadd, 1) := by decide +kernel
theorem dX1_place_36 : decode cX1_place 36 = .ok (.putfield 64, 3) := by decide +kernel
theorem dX1_place_39 : decode cX1_place 39 = .ok (.aload_n 0, 1) := by decide +kernel
theorem dX1_place_40 : decode cX1_place 40 = .ok (.getfield 64, 3) := by decide +kernel
theorem dX1_place_43 : decode cX1_place 43 = .ok (.iconst 1, 1) := by decide +kernel
theorem dX1_place_44 : decode cX1_place 44 = .ok (.isub, 1) := by decide +kernel
theorem dX1_place_45 : decode cX1_place 45 = .ok (.ireturn, 1) := by decide +kernel
theorem dX1_endRound_0 : decode cX1_endRound 0 = .ok (.aload_n 1, 1) := by decide +kernel
theorem dX1_endRound_1 : decode cX1_endRound 1 = .ok (.aload_n 0, 1) := by decide +kernel
theorem dX1_endRound_2 : decode cX1_endRound 2 = .ok (.invokevirtual 81, 3) := by decide +kernel
theorem dX1_endRound_5 : decode cX1_endRound 5 = .ok (.aload_n 1, 1) := by decide +kernel
theorem dX1_endRound_6 : decode cX1_endRound 6 = .ok (.aload_n 0, 1) := by decide +kernel
theorem dX1_endRound_7 : decode cX1_endRound 7 = .ok (.getfield 21, 3) := by decide +kernel
theorem dX1_endRound_10 : decode cX1_endRound 10 = .ok (.aload_n 0, 1) := by decide +kernel
theorem dX1_endRound_11 : decode cX1_endRound 11 = .ok (.getfield 28, 3) := by decide +kernel
theorem dX1_endRound_14 : decode cX1_endRound 14 = .ok (.invokevirtual 87, 3) := by decide +kernel
theorem dX1_endRound_17 : decode cX1_endRound 17 = .ok (.aload_n 0, 1) := by decide +kernel
theorem dX1_endRound_18 : decode cX1_endRound 18 = .ok (.aload_n 1, 1) := by decide +kernel
theorem dX1_endRound_19 : decode cX1_endRound 19 = .ok (.getfield 91, 3) := by decide +kernel
theorem dX1_endRound_22 : decode cX1_endRound 22 = .ok (.putfield 39, 3) := by decide +kernel
theorem dX1_endRound_25 : decode cX1_endRound 25 = .ok (.aload_n 0, 1) := by decide +kernel
theorem dX1_endRound_26 : decode cX1_endRound 26 = .ok (.dup, 1) := by decide +kernel
theorem dX1_endRound_27 : decode cX1_endRound 27 = .ok (.getfield 94, 3) := by decide +kernel
theorem dX1_endRound_30 : decode cX1_endRound 30 = .ok (.aload_n 1, 1) := by decide +kernel
theorem dX1_endRound_31 : decode cX1_endRound 31 = .ok (.getfield 97, 3) := by decide +kernel
theorem dX1_endRound_34 : decode cX1_endRound 34 = .ok (.iadd, 1) := by decide +kernel
theorem dX1_endRound_35 : decode cX1_endRound 35 = .ok (.putfield 94, 3) := by decide +kernel
theorem dX1_endRound_38 : decode cX1_endRound 38 = .ok (.aload_n 0, 1) := by decide +kernel
theorem dX1_endRound_39 : decode cX1_endRound 39 = .ok (.dup, 1) := by decide +kernel
theorem dX1_endRound_40 : decode cX1_endRound 40 = .ok (.getfield 100, 3) := by decide +kernel
theorem dX1_endRound_43 : decode cX1_endRound 43 = .ok (.aload_n 1, 1) := by decide +kernel
theorem dX1_endRound_44 : decode cX1_endRound 44 = .ok (.getfield 103, 3) := by decide +kernel
theorem dX1_endRound_47 : decode cX1_endRound 47 = .ok (.iadd, 1) := by decide +kernel
theorem dX1_endRound_48 : decode cX1_endRound 48 = .ok (.putfield 100, 3) := by decide +kernel
theorem dX1_endRound_51 : decode cX1_endRound 51 = .ok (.iconst 0, 1) := by decide +kernel
theorem dX1_endRound_52 : decode cX1_endRound 52 = .ok (.istore_n 2, 1) := by decide +kernel
theorem dX1_endRound_53 : decode cX1_endRound 53 = .ok (.iload_n 2, 1) := by decide +kernel
theorem dX1_endRound_54 : decode cX1_endRound 54 = .ok (.aload_n 0, 1) := by decide +kernel
theorem dX1_endRound_55 : decode cX1_endRound 55 = .ok (.getfield 12, 3) := by decide +kernel
theorem dX1_endRound_58 : decode cX1_endRound 58 = .ok (.getfield 46, 3) := by decide +kernel
theorem dX1_endRound_61 : decode cX1_endRound 61 = .ok (.if_icmp .ge 49, 3) := by decide +kernel
theorem dX1_endRound_64 : decode cX1_endRound 64 = .ok (.aload_n 1, 1) := by decide +kernel
theorem dX1_endRound_65 : decode cX1_endRound 65 = .ok (.aload_n 0, 1) := by decide +kernel
theorem dX1_endRound_66 : decode cX1_endRound 66 = .ok (.getfield 21, 3) := by decide +kernel
theorem dX1_endRound_69 : decode cX1_endRound 69 = .ok (.iload_n 2, 1) := by decide +kernel
theorem dX1_endRound_70 : decode cX1_endRound 70 = .ok (.invokevirtual 104, 3) := by decide +kernel
theorem dX1_endRound_73 : decode cX1_endRound 73 = .ok (.istore_n 3, 1) := by decide +kernel
theorem dX1_endRound_74 : decode cX1_endRound 74 = .ok (.aload_n 0, 1) := by decide +kernel
theorem dX1_endRound_75 : decode cX1_endRound 75 = .ok (.getfield 12, 3) := by decide +kernel
theorem dX1_endRound_78 : decode cX1_endRound 78 = .ok (.iload_n 2, 1) := by decide +kernel
theorem dX1_endRound_79 : decode cX1_endRound 79 = .ok (.iload_n 3, 1) := by decide +kernel
theorem dX1_endRound_80 : decode cX1_endRound 80 = .ok (.aload_n 1, 1) := by decide +kernel
theorem dX1_endRound_81 : decode cX1_endRound 81 = .ok (.getfield 91, 3) := by decide +kernel
theorem dX1_endRound_84 : decode cX1_endRound 84 = .ok (.invokevirtual 108, 3) := by decide +kernel
theorem dX1_endRound_87 : decode cX1_endRound 87 = .ok (.aload_n 0, 1) := by decide +kernel
theorem dX1_endRound_88 : decode cX1_endRound 88 = .ok (.getfield 12, 3) := by decide +kernel
theorem dX1_endRound_91 : decode cX1_endRound 91 = .ok (.iload_n 2, 1) := by decide +kernel
theorem dX1_endRound_92 : decode cX1_endRound 92 = .ok (.aload_n 0, 1) := by decide +kernel
theorem dX1_endRound_93 : decode cX1_endRound 93 = .ok (.getfield 21, 3) := by decide +kernel
theorem dX1_endRound_96 : decode cX1_endRound 96 = .ok (.iload_n 2, 1) := by decide +kernel
theorem dX1_endRound_97 : decode cX1_endRound 97 = .ok (.invokevirtual 112, 3) := by decide +kernel
theorem dX1_endRound_100 : decode cX1_endRound 100 = .ok (.iload_n 3, 1) := by decide +kernel
theorem dX1_endRound_101 : decode cX1_endRound 101 = .ok (.invokevirtual 115, 3) := by decide +kernel
theorem dX1_endRound_104 : decode cX1_endRound 104 = .ok (.iinc 2 1, 3) := by decide +kernel
theorem dX1_endRound_107 : decode cX1_endRound 107 = .ok (.goto (-54), 3) := by decide +kernel
theorem dX1_endRound_110 : decode cX1_endRound 110 = .ok (.iconst 0, 1) := by decide +kernel
theorem dX1_endRound_111 : decode cX1_endRound 111 = .ok (.istore_n 2, 1) := by decide +kernel
theorem dX1_endRound_112 : decode cX1_endRound 112 = .ok (.iload_n 2, 1) := by decide +kernel
theorem dX1_endRound_113 : decode cX1_endRound 113 = .ok (.aload_n 0, 1) := by decide +kernel
theorem dX1_endRound_114 : decode cX1_endRound 114 = .ok (.getfield 21, 3) := by decide +kernel
theorem dX1_endRound_117 : decode cX1_endRound 117 = .ok (.getfield 118, 3) := by decide +kernel
theorem dX1_endRound_120 : decode cX1_endRound 120 = .ok (.if_icmp .ge 29, 3) := by decide +kernel
theorem dX1_endRound_123 : decode cX1_endRound 123 = .ok (.aload_n 0, 1) := by decide +kernel
theorem dX1_endRound_124 : decode cX1_endRound 124 = .ok (.getfield 21, 3) := by decide +kernel
theorem dX1_endRound_127 : decode cX1_endRound 127 = .ok (.getfield 119, 3) := by decide +kernel
theorem dX1_endRound_130 : decode cX1_endRound 130 = .ok (.iload_n 2, 1) := by decide +kernel
theorem dX1_endRound_131 : decode cX1_endRound 131 = .ok (.aload_n 1, 1) := by decide +kernel
theorem dX1_endRound_132 : decode cX1_endRound 132 = .ok (.getfield 122, 3) := by decide +kernel
theorem dX1_endRound_135 : decode cX1_endRound 135 = .ok (.iload_n 2, 1) := by decide +kernel
theorem dX1_endRound_136 : decode cX1_endRound 136 = .ok (.invokevirtual 71, 3) := by decide +kernel
theorem dX1_endRound_139 : decode cX1_endRound 139 = .ok (.ineg, 1) := by decide +kernel
theorem dX1_endRound_140 : decode cX1_endRound 140 = .ok (.invokevirtual 125, 3) := by decide +kernel
theorem dX1_endRound_143 : decode cX1_endRound 143 = .ok (.iinc 2 1, 3) := by decide +kernel
theorem dX1_endRound_146 : decode cX1_endRound 146 = .ok (.goto (-34), 3) := by decide +kernel
theorem dX1_endRound_149 : decode cX1_endRound 149 = .ok (.aload_n 0, 1) := by decide +kernel
theorem dX1_endRound_150 : decode cX1_endRound 150 = .ok (.getfield 21, 3) := by decide +kernel
theorem dX1_endRound_153 : decode cX1_endRound 153 = .ok (.invokevirtual 129, 3) := by decide +kernel
theorem dX1_endRound_156 : decode cX1_endRound 156 = .ok (.aload_n 0, 1) := by decide +kernel
theorem dX1_endRound_157 : decode cX1_endRound 157 = .ok (.dup, 1) := by decide +kernel
theorem dX1_endRound_158 : decode cX1_endRound 158 = .ok (.getfield 61, 3) := by decide +kernel
theorem dX1_endRound_161 : decode cX1_endRound 161 = .ok (.iconst 1, 1) := by decide +kernel
theorem dX1_endRound_162 : decode cX1_endRound 162 = .ok (.iadd, 1) := by decide +kernel
theorem dX1_endRound_163 : decode cX1_endRound 163 = .ok (.putfield 61, 3) := by decide +kernel
theorem dX1_endRound_166 : decode cX1_endRound 166 = .ok (.aload_n 0, 1) := by decide +kernel
theorem dX1_endRound_167 : decode cX1_endRound 167 = .ok (.dup, 1) := by decide +kernel
theorem dX1_endRound_168 : decode cX1_endRound 168 = .ok (.getfield 132, 3) := by decide +kernel
theorem dX1_endRound_171 : decode cX1_endRound 171 = .ok (.aload_n 0, 1) := by decide +kernel
theorem dX1_endRound_172 : decode cX1_endRound 172 = .ok (.getfield 21, 3) := by decide +kernel
theorem dX1_endRound_175 : decode cX1_endRound 175 = .ok (.aload_n 0, 1) := by decide +kernel
theorem dX1_endRound_176 : decode cX1_endRound 176 = .ok (.getfield 61, 3) := by decide +kernel
theorem dX1_endRound_179 : decode cX1_endRound 179 = .ok (.aload_n 0, 1) := by decide +kernel
theorem dX1_endRound_180 : decode cX1_endRound 180 = .ok (.getfield 36, 3) := by decide +kernel
theorem dX1_endRound_183 : decode cX1_endRound 183 = .ok (.isub, 1) := by decide +kernel
theorem dX1_endRound_184 : decode cX1_endRound 184 = .ok (.invokevirtual 135, 3) := by decide +kernel
theorem dX1_endRound_187 : decode cX1_endRound 187 = .ok (.iadd, 1) := by decide +kernel
theorem dX1_endRound_188 : decode cX1_endRound 188 = .ok (.putfield 132, 3) := by decide +kernel
theorem dX1_endRound_191 : decode cX1_endRound 191 = .ok (.aload_n 1, 1) := by decide +kernel
theorem dX1_endRound_192 : decode cX1_endRound 192 = .ok (.getfield 97, 3) := by decide +kernel
theorem dX1_endRound_195 : decode cX1_endRound 195 = .ok (.ireturn, 1) := by decide +kernel
theorem dX1_traderValue_0 : decode cX1_traderValue 0 = .ok (.iload_n 2, 1) := by decide +kernel
theorem dX1_traderValue_1 : decode cX1_traderValue 1 = .ok (.tableswitch 150 0 8 #[51, 63, 75, 87, 99, 108, 117, 126, 138], 51) := by decide +kernel
theorem dX1_traderValue_52 : decode cX1_traderValue 52 = .ok (.aload_n 0, 1) := by decide +kernel
theorem dX1_traderValue_53 : decode cX1_traderValue 53 = .ok (.getfield 12, 3) := by decide +kernel
theorem dX1_traderValue_56 : decode cX1_traderValue 56 = .ok (.getfield 67, 3) := by decide +kernel
theorem dX1_traderValue_59 : decode cX1_traderValue 59 = .ok (.iload_n 1, 1) := by decide +kernel
theorem dX1_traderValue_60 : decode cX1_traderValue 60 = .ok (.invokevirtual 71, 3) := by decide +kernel
theorem dX1_traderValue_63 : decode cX1_traderValue 63 = .ok (.ireturn, 1) := by decide +kernel
theorem dX1_traderValue_64 : decode cX1_traderValue 64 = .ok (.aload_n 0, 1) := by decide +kernel
theorem dX1_traderValue_65 : decode cX1_traderValue 65 = .ok (.getfield 12, 3) := by decide +kernel
theorem dX1_traderValue_68 : decode cX1_traderValue 68 = .ok (.getfield 138, 3) := by decide +kernel
theorem dX1_traderValue_71 : decode cX1_traderValue 71 = .ok (.iload_n 1, 1) := by decide +kernel
theorem dX1_traderValue_72 : decode cX1_traderValue 72 = .ok (.invokevirtual 71, 3) := by decide +kernel
theorem dX1_traderValue_75 : decode cX1_traderValue 75 = .ok (.ireturn, 1) := by decide +kernel
theorem dX1_traderValue_76 : decode cX1_traderValue 76 = .ok (.aload_n 0, 1) := by decide +kernel
theorem dX1_traderValue_77 : decode cX1_traderValue 77 = .ok (.getfield 12, 3) := by decide +kernel
theorem dX1_traderValue_80 : decode cX1_traderValue 80 = .ok (.getfield 141, 3) := by decide +kernel
theorem dX1_traderValue_83 : decode cX1_traderValue 83 = .ok (.iload_n 1, 1) := by decide +kernel
theorem dX1_traderValue_84 : decode cX1_traderValue 84 = .ok (.invokevirtual 71, 3) := by decide +kernel
theorem dX1_traderValue_87 : decode cX1_traderValue 87 = .ok (.ireturn, 1) := by decide +kernel
theorem dX1_traderValue_88 : decode cX1_traderValue 88 = .ok (.aload_n 0, 1) := by decide +kernel
theorem dX1_traderValue_89 : decode cX1_traderValue 89 = .ok (.getfield 12, 3) := by decide +kernel
theorem dX1_traderValue_92 : decode cX1_traderValue 92 = .ok (.getfield 144, 3) := by decide +kernel
theorem dX1_traderValue_95 : decode cX1_traderValue 95 = .ok (.iload_n 1, 1) := by decide +kernel
theorem dX1_traderValue_96 : decode cX1_traderValue 96 = .ok (.invokevirtual 71, 3) := by decide +kernel
theorem dX1_traderValue_99 : decode cX1_traderValue 99 = .ok (.ireturn, 1) := by decide +kernel
theorem dX1_traderValue_100 : decode cX1_traderValue 100 = .ok (.aload_n 0, 1) := by decide +kernel
theorem dX1_traderValue_101 : decode cX1_traderValue 101 = .ok (.getfield 12, 3) := by decide +kernel
theorem dX1_traderValue_104 : decode cX1_traderValue 104 = .ok (.iload_n 1, 1) := by decide +kernel
theorem dX1_traderValue_105 : decode cX1_traderValue 105 = .ok (.invokevirtual 147, 3) := by decide +kernel
theorem dX1_traderValue_108 : decode cX1_traderValue 108 = .ok (.ireturn, 1) := by decide +kernel
theorem dX1_traderValue_109 : decode cX1_traderValue 109 = .ok (.aload_n 0, 1) := by decide +kernel
theorem dX1_traderValue_110 : decode cX1_traderValue 110 = .ok (.getfield 21, 3) := by decide +kernel
theorem dX1_traderValue_113 : decode cX1_traderValue 113 = .ok (.iload_n 1, 1) := by decide +kernel
theorem dX1_traderValue_114 : decode cX1_traderValue 114 = .ok (.invokevirtual 150, 3) := by decide +kernel
theorem dX1_traderValue_117 : decode cX1_traderValue 117 = .ok (.ireturn, 1) := by decide +kernel
theorem dX1_traderValue_118 : decode cX1_traderValue 118 = .ok (.aload_n 0, 1) := by decide +kernel
theorem dX1_traderValue_119 : decode cX1_traderValue 119 = .ok (.getfield 21, 3) := by decide +kernel
theorem dX1_traderValue_122 : decode cX1_traderValue 122 = .ok (.iload_n 1, 1) := by decide +kernel
theorem dX1_traderValue_123 : decode cX1_traderValue 123 = .ok (.invokevirtual 112, 3) := by decide +kernel
theorem dX1_traderValue_126 : decode cX1_traderValue 126 = .ok (.ireturn, 1) := by decide +kernel
theorem dX1_traderValue_127 : decode cX1_traderValue 127 = .ok (.aload_n 0, 1) := by decide +kernel
theorem dX1_traderValue_128 : decode cX1_traderValue 128 = .ok (.getfield 12, 3) := by decide +kernel
theorem dX1_traderValue_131 : decode cX1_traderValue 131 = .ok (.getfield 153, 3) := by decide +kernel
theorem dX1_traderValue_134 : decode cX1_traderValue 134 = .ok (.iload_n 1, 1) := by decide +kernel
theorem dX1_traderValue_135 : decode cX1_traderValue 135 = .ok (.invokevirtual 71, 3) := by decide +kernel
theorem dX1_traderValue_138 : decode cX1_traderValue 138 = .ok (.ireturn, 1) := by decide +kernel
theorem dX1_traderValue_139 : decode cX1_traderValue 139 = .ok (.aload_n 0, 1) := by decide +kernel
theorem dX1_traderValue_140 : decode cX1_traderValue 140 = .ok (.getfield 12, 3) := by decide +kernel
theorem dX1_traderValue_143 : decode cX1_traderValue 143 = .ok (.getfield 155, 3) := by decide +kernel
theorem dX1_traderValue_146 : decode cX1_traderValue 146 = .ok (.iload_n 1, 1) := by decide +kernel
theorem dX1_traderValue_147 : decode cX1_traderValue 147 = .ok (.invokevirtual 71, 3) := by decide +kernel
theorem dX1_traderValue_150 : decode cX1_traderValue 150 = .ok (.ireturn, 1) := by decide +kernel
theorem dX1_traderValue_151 : decode cX1_traderValue 151 = .ok (.aload_n 0, 1) := by decide +kernel
theorem dX1_traderValue_152 : decode cX1_traderValue 152 = .ok (.getfield 12, 3) := by decide +kernel
theorem dX1_traderValue_155 : decode cX1_traderValue 155 = .ok (.getfield 158, 3) := by decide +kernel
theorem dX1_traderValue_158 : decode cX1_traderValue 158 = .ok (.iload_n 1, 1) := by decide +kernel
theorem dX1_traderValue_159 : decode cX1_traderValue 159 = .ok (.invokevirtual 71, 3) := by decide +kernel
theorem dX1_traderValue_162 : decode cX1_traderValue 162 = .ok (.ireturn, 1) := by decide +kernel
theorem dX1_wholeValue_0 : decode cX1_wholeValue 0 = .ok (.iload_n 1, 1) := by decide +kernel
theorem dX1_wholeValue_1 : decode cX1_wholeValue 1 = .ok (.tableswitch 114 0 9 #[55, 63, 71, 76, 81, 86, 91, 96, 101, 106], 55) := by decide +kernel
theorem dX1_wholeValue_56 : decode cX1_wholeValue 56 = .ok (.aload_n 0, 1) := by decide +kernel
theorem dX1_wholeValue_57 : decode cX1_wholeValue 57 = .ok (.getfield 12, 3) := by decide +kernel
theorem dX1_wholeValue_60 : decode cX1_wholeValue 60 = .ok (.getfield 46, 3) := by decide +kernel
theorem dX1_wholeValue_63 : decode cX1_wholeValue 63 = .ok (.ireturn, 1) := by decide +kernel
theorem dX1_wholeValue_64 : decode cX1_wholeValue 64 = .ok (.aload_n 0, 1) := by decide +kernel
theorem dX1_wholeValue_65 : decode cX1_wholeValue 65 = .ok (.getfield 21, 3) := by decide +kernel
theorem dX1_wholeValue_68 : decode cX1_wholeValue 68 = .ok (.getfield 118, 3) := by decide +kernel
theorem dX1_wholeValue_71 : decode cX1_wholeValue 71 = .ok (.ireturn, 1) := by decide +kernel
theorem dX1_wholeValue_72 : decode cX1_wholeValue 72 = .ok (.aload_n 0, 1) := by decide +kernel
theorem dX1_wholeValue_73 : decode cX1_wholeValue 73 = .ok (.getfield 61, 3) := by decide +kernel
theorem dX1_wholeValue_76 : decode cX1_wholeValue 76 = .ok (.ireturn, 1) := by decide +kernel
theorem dX1_wholeValue_77 : decode cX1_wholeValue 77 = .ok (.aload_n 0, 1) := by decide +kernel
theorem dX1_wholeValue_78 : decode cX1_wholeValue 78 = .ok (.getfield 32, 3) := by decide +kernel
theorem dX1_wholeValue_81 : decode cX1_wholeValue 81 = .ok (.ireturn, 1) := by decide +kernel
theorem dX1_wholeValue_82 : decode cX1_wholeValue 82 = .ok (.aload_n 0, 1) := by decide +kernel
theorem dX1_wholeValue_83 : decode cX1_wholeValue 83 = .ok (.getfield 36, 3) := by decide +kernel
theorem dX1_wholeValue_86 : decode cX1_wholeValue 86 = .ok (.ireturn, 1) := by decide +kernel
theorem dX1_wholeValue_87 : decode cX1_wholeValue 87 = .ok (.aload_n 0, 1) := by decide +kernel
theorem dX1_wholeValue_88 : decode cX1_wholeValue 88 = .ok (.getfield 64, 3) := by decide +kernel
theorem dX1_wholeValue_91 : decode cX1_wholeValue 91 = .ok (.ireturn, 1) := by decide +kernel
theorem dX1_wholeValue_92 : decode cX1_wholeValue 92 = .ok (.aload_n 0, 1) := by decide +kernel
theorem dX1_wholeValue_93 : decode cX1_wholeValue 93 = .ok (.getfield 94, 3) := by decide +kernel
theorem dX1_wholeValue_96 : decode cX1_wholeValue 96 = .ok (.ireturn, 1) := by decide +kernel
theorem dX1_wholeValue_97 : decode cX1_wholeValue 97 = .ok (.aload_n 0, 1) := by decide +kernel
theorem dX1_wholeValue_98 : decode cX1_wholeValue 98 = .ok (.getfield 100, 3) := by decide +kernel
theorem dX1_wholeValue_101 : decode cX1_wholeValue 101 = .ok (.ireturn, 1) := by decide +kernel
theorem dX1_wholeValue_102 : decode cX1_wholeValue 102 = .ok (.aload_n 0, 1) := by decide +kernel
theorem dX1_wholeValue_103 : decode cX1_wholeValue 103 = .ok (.getfield 39, 3) := by decide +kernel
theorem dX1_wholeValue_106 : decode cX1_wholeValue 106 = .ok (.ireturn, 1) := by decide +kernel
theorem dX1_wholeValue_107 : decode cX1_wholeValue 107 = .ok (.aload_n 0, 1) := by decide +kernel
theorem dX1_wholeValue_108 : decode cX1_wholeValue 108 = .ok (.getfield 28, 3) := by decide +kernel
theorem dX1_wholeValue_111 : decode cX1_wholeValue 111 = .ok (.getfield 161, 3) := by decide +kernel
theorem dX1_wholeValue_114 : decode cX1_wholeValue 114 = .ok (.ireturn, 1) := by decide +kernel
theorem dX1_wholeValue_115 : decode cX1_wholeValue 115 = .ok (.aload_n 0, 1) := by decide +kernel
theorem dX1_wholeValue_116 : decode cX1_wholeValue 116 = .ok (.getfield 132, 3) := by decide +kernel
theorem dX1_wholeValue_119 : decode cX1_wholeValue 119 = .ok (.ireturn, 1) := by decide +kernel
theorem dX1_copyFrom_0 : decode cX1_copyFrom 0 = .ok (.aload_n 0, 1) := by decide +kernel
theorem dX1_copyFrom_1 : decode cX1_copyFrom 1 = .ok (.getfield 12, 3) := by decide +kernel
theorem dX1_copyFrom_4 : decode cX1_copyFrom 4 = .ok (.aload_n 1, 1) := by decide +kernel
theorem dX1_copyFrom_5 : decode cX1_copyFrom 5 = .ok (.getfield 12, 3) := by decide +kernel
theorem dX1_copyFrom_8 : decode cX1_copyFrom 8 = .ok (.invokevirtual 162, 3) := by decide +kernel
theorem dX1_copyFrom_11 : decode cX1_copyFrom 11 = .ok (.aload_n 0, 1) := by decide +kernel
theorem dX1_copyFrom_12 : decode cX1_copyFrom 12 = .ok (.getfield 21, 3) := by decide +kernel
theorem dX1_copyFrom_15 : decode cX1_copyFrom 15 = .ok (.aload_n 1, 1) := by decide +kernel
theorem dX1_copyFrom_16 : decode cX1_copyFrom 16 = .ok (.getfield 21, 3) := by decide +kernel
theorem dX1_copyFrom_19 : decode cX1_copyFrom 19 = .ok (.invokevirtual 166, 3) := by decide +kernel
theorem dX1_copyFrom_22 : decode cX1_copyFrom 22 = .ok (.aload_n 0, 1) := by decide +kernel
theorem dX1_copyFrom_23 : decode cX1_copyFrom 23 = .ok (.getfield 28, 3) := by decide +kernel
theorem dX1_copyFrom_26 : decode cX1_copyFrom 26 = .ok (.aload_n 1, 1) := by decide +kernel
theorem dX1_copyFrom_27 : decode cX1_copyFrom 27 = .ok (.getfield 28, 3) := by decide +kernel
theorem dX1_copyFrom_30 : decode cX1_copyFrom 30 = .ok (.invokevirtual 169, 3) := by decide +kernel
theorem dX1_copyFrom_33 : decode cX1_copyFrom 33 = .ok (.aload_n 0, 1) := by decide +kernel
theorem dX1_copyFrom_34 : decode cX1_copyFrom 34 = .ok (.aload_n 1, 1) := by decide +kernel
theorem dX1_copyFrom_35 : decode cX1_copyFrom 35 = .ok (.getfield 32, 3) := by decide +kernel
theorem dX1_copyFrom_38 : decode cX1_copyFrom 38 = .ok (.putfield 32, 3) := by decide +kernel
theorem dX1_copyFrom_41 : decode cX1_copyFrom 41 = .ok (.aload_n 0, 1) := by decide +kernel
theorem dX1_copyFrom_42 : decode cX1_copyFrom 42 = .ok (.aload_n 1, 1) := by decide +kernel
theorem dX1_copyFrom_43 : decode cX1_copyFrom 43 = .ok (.getfield 36, 3) := by decide +kernel
theorem dX1_copyFrom_46 : decode cX1_copyFrom 46 = .ok (.putfield 36, 3) := by decide +kernel
theorem dX1_copyFrom_49 : decode cX1_copyFrom 49 = .ok (.aload_n 0, 1) := by decide +kernel
theorem dX1_copyFrom_50 : decode cX1_copyFrom 50 = .ok (.aload_n 1, 1) := by decide +kernel
theorem dX1_copyFrom_51 : decode cX1_copyFrom 51 = .ok (.getfield 61, 3) := by decide +kernel
theorem dX1_copyFrom_54 : decode cX1_copyFrom 54 = .ok (.putfield 61, 3) := by decide +kernel
theorem dX1_copyFrom_57 : decode cX1_copyFrom 57 = .ok (.aload_n 0, 1) := by decide +kernel
theorem dX1_copyFrom_58 : decode cX1_copyFrom 58 = .ok (.aload_n 1, 1) := by decide +kernel
theorem dX1_copyFrom_59 : decode cX1_copyFrom 59 = .ok (.getfield 64, 3) := by decide +kernel
theorem dX1_copyFrom_62 : decode cX1_copyFrom 62 = .ok (.putfield 64, 3) := by decide +kernel
theorem dX1_copyFrom_65 : decode cX1_copyFrom 65 = .ok (.aload_n 0, 1) := by decide +kernel
theorem dX1_copyFrom_66 : decode cX1_copyFrom 66 = .ok (.aload_n 1, 1) := by decide +kernel
theorem dX1_copyFrom_67 : decode cX1_copyFrom 67 = .ok (.getfield 94, 3) := by decide +kernel
theorem dX1_copyFrom_70 : decode cX1_copyFrom 70 = .ok (.putfield 94, 3) := by decide +kernel
theorem dX1_copyFrom_73 : decode cX1_copyFrom 73 = .ok (.aload_n 0, 1) := by decide +kernel
theorem dX1_copyFrom_74 : decode cX1_copyFrom 74 = .ok (.aload_n 1, 1) := by decide +kernel
theorem dX1_copyFrom_75 : decode cX1_copyFrom 75 = .ok (.getfield 100, 3) := by decide +kernel
theorem dX1_copyFrom_78 : decode cX1_copyFrom 78 = .ok (.putfield 100, 3) := by decide +kernel
theorem dX1_copyFrom_81 : decode cX1_copyFrom 81 = .ok (.aload_n 0, 1) := by decide +kernel
theorem dX1_copyFrom_82 : decode cX1_copyFrom 82 = .ok (.aload_n 1, 1) := by decide +kernel
theorem dX1_copyFrom_83 : decode cX1_copyFrom 83 = .ok (.getfield 39, 3) := by decide +kernel
theorem dX1_copyFrom_86 : decode cX1_copyFrom 86 = .ok (.putfield 39, 3) := by decide +kernel
theorem dX1_copyFrom_89 : decode cX1_copyFrom 89 = .ok (.aload_n 0, 1) := by decide +kernel
theorem dX1_copyFrom_90 : decode cX1_copyFrom 90 = .ok (.aload_n 1, 1) := by decide +kernel
theorem dX1_copyFrom_91 : decode cX1_copyFrom 91 = .ok (.getfield 132, 3) := by decide +kernel
theorem dX1_copyFrom_94 : decode cX1_copyFrom 94 = .ok (.putfield 132, 3) := by decide +kernel
theorem dX1_copyFrom_97 : decode cX1_copyFrom 97 = .ok (.return_, 1) := by decide +kernel
theorem dX2_init_0 : decode cX2_init 0 = .ok (.aload_n 0, 1) := by decide +kernel
theorem dX2_init_1 : decode cX2_init 1 = .ok (.invokespecial 3, 3) := by decide +kernel
theorem dX2_init_4 : decode cX2_init 4 = .ok (.aload_n 0, 1) := by decide +kernel
theorem dX2_init_5 : decode cX2_init 5 = .ok (.new 9, 3) := by decide +kernel
theorem dX2_init_8 : decode cX2_init 8 = .ok (.dup, 1) := by decide +kernel
theorem dX2_init_9 : decode cX2_init 9 = .ok (.bipush 20, 2) := by decide +kernel
theorem dX2_init_11 : decode cX2_init 11 = .ok (.invokespecial 11, 3) := by decide +kernel
theorem dX2_init_14 : decode cX2_init 14 = .ok (.putfield 14, 3) := by decide +kernel
theorem dX2_init_17 : decode cX2_init 17 = .ok (.aload_n 0, 1) := by decide +kernel
theorem dX2_init_18 : decode cX2_init 18 = .ok (.new 9, 3) := by decide +kernel
theorem dX2_init_21 : decode cX2_init 21 = .ok (.dup, 1) := by decide +kernel
theorem dX2_init_22 : decode cX2_init 22 = .ok (.bipush 20, 2) := by decide +kernel
theorem dX2_init_24 : decode cX2_init 24 = .ok (.invokespecial 11, 3) := by decide +kernel
theorem dX2_init_27 : decode cX2_init 27 = .ok (.putfield 20, 3) := by decide +kernel
theorem dX2_init_30 : decode cX2_init 30 = .ok (.aload_n 0, 1) := by decide +kernel
theorem dX2_init_31 : decode cX2_init 31 = .ok (.new 9, 3) := by decide +kernel
theorem dX2_init_34 : decode cX2_init 34 = .ok (.dup, 1) := by decide +kernel
theorem dX2_init_35 : decode cX2_init 35 = .ok (.bipush 20, 2) := by decide +kernel
theorem dX2_init_37 : decode cX2_init 37 = .ok (.invokespecial 11, 3) := by decide +kernel
theorem dX2_init_40 : decode cX2_init 40 = .ok (.putfield 23, 3) := by decide +kernel
theorem dX2_init_43 : decode cX2_init 43 = .ok (.aload_n 0, 1) := by decide +kernel
theorem dX2_init_44 : decode cX2_init 44 = .ok (.new 9, 3) := by decide +kernel
theorem dX2_init_47 : decode cX2_init 47 = .ok (.dup, 1) := by decide +kernel
theorem dX2_init_48 : decode cX2_init 48 = .ok (.bipush 121, 2) := by decide +kernel
theorem dX2_init_50 : decode cX2_init 50 = .ok (.invokespecial 11, 3) := by decide +kernel
theorem dX2_init_53 : decode cX2_init 53 = .ok (.putfield 26, 3) := by decide +kernel
theorem dX2_init_56 : decode cX2_init 56 = .ok (.aload_n 0, 1) := by decide +kernel
theorem dX2_init_57 : decode cX2_init 57 = .ok (.new 9, 3) := by decide +kernel
theorem dX2_init_60 : decode cX2_init 60 = .ok (.dup, 1) := by decide +kernel
theorem dX2_init_61 : decode cX2_init 61 = .ok (.bipush 121, 2) := by decide +kernel
theorem dX2_init_63 : decode cX2_init 63 = .ok (.invokespecial 11, 3) := by decide +kernel
theorem dX2_init_66 : decode cX2_init 66 = .ok (.putfield 29, 3) := by decide +kernel
theorem dX2_init_69 : decode cX2_init 69 = .ok (.return_, 1) := by decide +kernel
theorem dX2_settle_0 : decode cX2_settle 0 = .ok (.aload_n 0, 1) := by decide +kernel
theorem dX2_settle_1 : decode cX2_settle 1 = .ok (.aload_n 0, 1) := by decide +kernel
theorem dX2_settle_2 : decode cX2_settle 2 = .ok (.getfield 20, 3) := by decide +kernel
theorem dX2_settle_5 : decode cX2_settle 5 = .ok (.aload_n 1, 1) := by decide +kernel
theorem dX2_settle_6 : decode cX2_settle 6 = .ok (.getfield 32, 3) := by decide +kernel
theorem dX2_settle_9 : decode cX2_settle 9 = .ok (.iconst 0, 1) := by decide +kernel
theorem dX2_settle_10 : decode cX2_settle 10 = .ok (.invokestatic 38, 3) := by decide +kernel
theorem dX2_settle_13 : decode cX2_settle 13 = .ok (.putfield 42, 3) := by decide +kernel
theorem dX2_settle_16 : decode cX2_settle 16 = .ok (.aload_n 0, 1) := by decide +kernel
theorem dX2_settle_17 : decode cX2_settle 17 = .ok (.aload_n 0, 1) := by decide +kernel
theorem dX2_settle_18 : decode cX2_settle 18 = .ok (.getfield 23, 3) := by decide +kernel
theorem dX2_settle_21 : decode cX2_settle 21 = .ok (.aload_n 1, 1) := by decide +kernel
theorem dX2_settle_22 : decode cX2_settle 22 = .ok (.getfield 32, 3) := by decide +kernel
theorem dX2_settle_25 : decode cX2_settle 25 = .ok (.iconst 1, 1) := by decide +kernel
theorem dX2_settle_26 : decode cX2_settle 26 = .ok (.invokestatic 38, 3) := by decide +kernel
theorem dX2_settle_29 : decode cX2_settle 29 = .ok (.putfield 46, 3) := by decide +kernel
theorem dX2_settle_32 : decode cX2_settle 32 = .ok (.aload_n 0, 1) := by decide +kernel
theorem dX2_settle_33 : decode cX2_settle 33 = .ok (.aload_n 1, 1) := by decide +kernel
theorem dX2_settle_34 : decode cX2_settle 34 = .ok (.getfield 32, 3) := by decide +kernel
theorem dX2_settle_37 : decode cX2_settle 37 = .ok (.invokevirtual 49, 3) := by decide +kernel
theorem dX2_settle_40 : decode cX2_settle 40 = .ok (.aload_n 0, 1) := by decide +kernel
theorem dX2_settle_41 : decode cX2_settle 41 = .ok (.aload_n 0, 1) := by decide +kernel
theorem dX2_settle_42 : decode cX2_settle 42 = .ok (.aload_n 1, 1) := by decide +kernel
theorem dX2_settle_43 : decode cX2_settle 43 = .ok (.getfield 53, 3) := by decide +kernel
theorem dX2_settle_46 : decode cX2_settle 46 = .ok (.invokevirtual 56, 3) := by decide +kernel
theorem dX2_settle_49 : decode cX2_settle 49 = .ok (.putfield 60, 3) := by decide +kernel
theorem dX2_settle_52 : decode cX2_settle 52 = .ok (.aload_n 0, 1) := by decide +kernel
theorem dX2_settle_53 : decode cX2_settle 53 = .ok (.aload_n 0, 1) := by decide +kernel
theorem dX2_settle_54 : decode cX2_settle 54 = .ok (.getfield 20, 3) := by decide +kernel
theorem dX2_settle_57 : decode cX2_settle 57 = .ok (.aload_n 0, 1) := by decide +kernel
theorem dX2_settle_58 : decode cX2_settle 58 = .ok (.getfield 42, 3) := by decide +kernel
theorem dX2_settle_61 : decode cX2_settle 61 = .ok (.aload_n 1, 1) := by decide +kernel
theorem dX2_settle_62 : decode cX2_settle 62 = .ok (.getfield 32, 3) := by decide +kernel
theorem dX2_settle_65 : decode cX2_settle 65 = .ok (.invokevirtual 63, 3) := by decide +kernel
theorem dX2_settle_68 : decode cX2_settle 68 = .ok (.aload_n 0, 1) := by decide +kernel
theorem dX2_settle_69 : decode cX2_settle 69 = .ok (.aload_n 0, 1) := by decide +kernel
theorem dX2_settle_70 : decode cX2_settle 70 = .ok (.getfield 23, 3) := by decide +kernel
theorem dX2_settle_73 : decode cX2_settle 73 = .ok (.aload_n 0, 1) := by decide +kernel
theorem dX2_settle_74 : decode cX2_settle 74 = .ok (.getfield 46, 3) := by decide +kernel
theorem dX2_settle_77 : decode cX2_settle 77 = .ok (.aload_n 1, 1) := by decide +kernel
theorem dX2_settle_78 : decode cX2_settle 78 = .ok (.getfield 32, 3) := by decide +kernel
theorem dX2_settle_81 : decode cX2_settle 81 = .ok (.invokevirtual 63, 3) := by decide +kernel
theorem dX2_settle_84 : decode cX2_settle 84 = .ok (.aload_n 0, 1) := by decide +kernel
theorem dX2_settle_85 : decode cX2_settle 85 = .ok (.aload_n 0, 1) := by decide +kernel
theorem dX2_settle_86 : decode cX2_settle 86 = .ok (.aload_n 1, 1) := by decide +kernel
theorem dX2_settle_87 : decode cX2_settle 87 = .ok (.invokevirtual 67, 3) := by decide +kernel
theorem dX2_settle_90 : decode cX2_settle 90 = .ok (.putfield 71, 3) := by decide +kernel
theorem dX2_settle_93 : decode cX2_settle 93 = .ok (.return_, 1) := by decide +kernel
theorem dX2_priceWith_0 : decode cX2_priceWith 0 = .ok (.aload_n 0, 1) := by decide +kernel
theorem dX2_priceWith_1 : decode cX2_priceWith 1 = .ok (.getfield 74, 3) := by decide +kernel
theorem dX2_priceWith_4 : decode cX2_priceWith 4 = .ok (.ifCond .ne 9, 3) := by decide +kernel
theorem dX2_priceWith_7 : decode cX2_priceWith 7 = .ok (.sipush (-10000), 3) := by decide +kernel
theorem dX2_priceWith_10 : decode cX2_priceWith 10 = .ok (.goto 22, 3) := by decide +kernel
theorem dX2_priceWith_13 : decode cX2_priceWith 13 = .ok (.aload_n 0, 1) := by decide +kernel
theorem dX2_priceWith_14 : decode cX2_priceWith 14 = .ok (.getfield 77, 3) := by decide +kernel
theorem dX2_priceWith_17 : decode cX2_priceWith 17 = .ok (.aload_n 0, 1) := by decide +kernel
theorem dX2_priceWith_18 : decode cX2_priceWith 18 = .ok (.getfield 80, 3) := by decide +kernel
theorem dX2_priceWith_21 : decode cX2_priceWith 21 = .ok (.aload_n 0, 1) := by decide +kernel
theorem dX2_priceWith_22 : decode cX2_priceWith 22 = .ok (.getfield 77, 3) := by decide +kernel
theorem dX2_priceWith_25 : decode cX2_priceWith 25 = .ok (.isub, 1) := by decide +kernel
theorem dX2_priceWith_26 : decode cX2_priceWith 26 = .ok (.iload_n 1, 1) := by decide +kernel
theorem dX2_priceWith_27 : decode cX2_priceWith 27 = .ok (.imul, 1) := by decide +kernel
theorem dX2_priceWith_28 : decode cX2_priceWith 28 = .ok (.bipush 10, 2) := by decide +kernel
theorem dX2_priceWith_30 : decode cX2_priceWith 30 = .ok (.idiv, 1) := by decide +kernel
theorem dX2_priceWith_31 : decode cX2_priceWith 31 = .ok (.iadd, 1) := by decide +kernel
theorem dX2_priceWith_32 : decode cX2_priceWith 32 = .ok (.ireturn, 1) := by decide +kernel
theorem dX2_valueOf_0 : decode cX2_valueOf 0 = .ok (.iload_n 2, 1) := by decide +kernel
theorem dX2_valueOf_1 : decode cX2_valueOf 1 = .ok (.tableswitch 70 0 5 #[39, 44, 49, 54, 59, 64], 39) := by decide +kernel
theorem dX2_valueOf_40 : decode cX2_valueOf 40 = .ok (.aload_n 0, 1) := by decide +kernel
theorem dX2_valueOf_41 : decode cX2_valueOf 41 = .ok (.getfield 77, 3) := by decide +kernel
theorem dX2_valueOf_44 : decode cX2_valueOf 44 = .ok (.ireturn, 1) := by decide +kernel
theorem dX2_valueOf_45 : decode cX2_valueOf 45 = .ok (.aload_n 0, 1) := by decide +kernel
theorem dX2_valueOf_46 : decode cX2_valueOf 46 = .ok (.getfield 80, 3) := by decide +kernel
theorem dX2_valueOf_49 : decode cX2_valueOf 49 = .ok (.ireturn, 1) := by decide +kernel
theorem dX2_valueOf_50 : decode cX2_valueOf 50 = .ok (.aload_n 0, 1) := by decide +kernel
theorem dX2_valueOf_51 : decode cX2_valueOf 51 = .ok (.getfield 60, 3) := by decide +kernel
theorem dX2_valueOf_54 : decode cX2_valueOf 54 = .ok (.ireturn, 1) := by decide +kernel
theorem dX2_valueOf_55 : decode cX2_valueOf 55 = .ok (.aload_n 0, 1) := by decide +kernel
theorem dX2_valueOf_56 : decode cX2_valueOf 56 = .ok (.getfield 74, 3) := by decide +kernel
theorem dX2_valueOf_59 : decode cX2_valueOf 59 = .ok (.ireturn, 1) := by decide +kernel
theorem dX2_valueOf_60 : decode cX2_valueOf 60 = .ok (.aload_n 0, 1) := by decide +kernel
theorem dX2_valueOf_61 : decode cX2_valueOf 61 = .ok (.getfield 71, 3) := by decide +kernel
theorem dX2_valueOf_64 : decode cX2_valueOf 64 = .ok (.ireturn, 1) := by decide +kernel
theorem dX2_valueOf_65 : decode cX2_valueOf 65 = .ok (.aload_n 0, 1) := by decide +kernel
theorem dX2_valueOf_66 : decode cX2_valueOf 66 = .ok (.aload_n 1, 1) := by decide +kernel
theorem dX2_valueOf_67 : decode cX2_valueOf 67 = .ok (.invokevirtual 83, 3) := by decide +kernel
theorem dX2_valueOf_70 : decode cX2_valueOf 70 = .ok (.ireturn, 1) := by decide +kernel
theorem dX2_valueOf_71 : decode cX2_valueOf 71 = .ok (.aload_n 0, 1) := by decide +kernel
theorem dX2_valueOf_72 : decode cX2_valueOf 72 = .ok (.aload_n 0, 1) := by decide +kernel
theorem dX2_valueOf_73 : decode cX2_valueOf 73 = .ok (.aload_n 1, 1) := by decide +kernel
theorem dX2_valueOf_74 : decode cX2_valueOf 74 = .ok (.invokevirtual 83, 3) := by decide +kernel
theorem dX2_valueOf_77 : decode cX2_valueOf 77 = .ok (.invokevirtual 86, 3) := by decide +kernel
theorem dX2_valueOf_80 : decode cX2_valueOf 80 = .ok (.ireturn, 1) := by decide +kernel
theorem dX2_reasonOf_0 : decode cX2_reasonOf 0 = .ok (.aload_n 0, 1) := by decide +kernel
theorem dX2_reasonOf_1 : decode cX2_reasonOf 1 = .ok (.getfield 14, 3) := by decide +kernel
theorem dX2_reasonOf_4 : decode cX2_reasonOf 4 = .ok (.iload_n 2, 1) := by decide +kernel
theorem dX2_reasonOf_5 : decode cX2_reasonOf 5 = .ok (.invokevirtual 89, 3) := by decide +kernel
theorem dX2_reasonOf_8 : decode cX2_reasonOf 8 = .ok (.aload_n 1, 1) := by decide +kernel
theorem dX2_reasonOf_9 : decode cX2_reasonOf 9 = .ok (.getfield 92, 3) := by decide +kernel
theorem dX2_reasonOf_12 : decode cX2_reasonOf 12 = .ok (.iload_n 2, 1) := by decide +kernel
theorem dX2_reasonOf_13 : decode cX2_reasonOf 13 = .ok (.invokevirtual 89, 3) := by decide +kernel
theorem dX2_reasonOf_16 : decode cX2_reasonOf 16 = .ok (.if_icmp .ne 5, 3) := by decide +kernel
theorem dX2_reasonOf_19 : decode cX2_reasonOf 19 = .ok (.iconst 0, 1) := by decide +kernel
theorem dX2_reasonOf_20 : decode cX2_reasonOf 20 = .ok (.ireturn, 1) := by decide +kernel
theorem dX2_reasonOf_21 : decode cX2_reasonOf 21 = .ok (.aload_n 0, 1) := by decide +kernel
theorem dX2_reasonOf_22 : decode cX2_reasonOf 22 = .ok (.getfield 74, 3) := by decide +kernel
theorem dX2_reasonOf_25 : decode cX2_reasonOf 25 = .ok (.ifCond .ne 5, 3) := by decide +kernel
theorem dX2_reasonOf_28 : decode cX2_reasonOf 28 = .ok (.iconst 1, 1) := by decide +kernel
theorem dX2_reasonOf_29 : decode cX2_reasonOf 29 = .ok (.ireturn, 1) := by decide +kernel
theorem dX2_reasonOf_30 : decode cX2_reasonOf 30 = .ok (.aload_n 1, 1) := by decide +kernel
theorem dX2_reasonOf_31 : decode cX2_reasonOf 31 = .ok (.iload_n 2, 1) := by decide +kernel
theorem dX2_reasonOf_32 : decode cX2_reasonOf 32 = .ok (.aload_n 0, 1) := by decide +kernel
theorem dX2_reasonOf_33 : decode cX2_reasonOf 33 = .ok (.getfield 60, 3) := by decide +kernel
theorem dX2_reasonOf_36 : decode cX2_reasonOf 36 = .ok (.invokevirtual 97, 3) := by decide +kernel
theorem dX2_reasonOf_39 : decode cX2_reasonOf 39 = .ok (.ifCond .eq 7, 3) := by decide +kernel
theorem dX2_reasonOf_42 : decode cX2_reasonOf 42 = .ok (.iconst 3, 1) := by decide +kernel
theorem dX2_reasonOf_43 : decode cX2_reasonOf 43 = .ok (.goto 4, 3) := by decide +kernel
theorem dX2_reasonOf_46 : decode cX2_reasonOf 46 = .ok (.iconst 2, 1) := by decide +kernel
theorem dX2_reasonOf_47 : decode cX2_reasonOf 47 = .ok (.ireturn, 1) := by decide +kernel
theorem dX2_takenOf_0 : decode cX2_takenOf 0 = .ok (.iconst 0, 1) := by decide +kernel
theorem dX2_takenOf_1 : decode cX2_takenOf 1 = .ok (.istore_n 3, 1) := by decide +kernel
theorem dX2_takenOf_2 : decode cX2_takenOf 2 = .ok (.iconst 0, 1) := by decide +kernel
theorem dX2_takenOf_3 : decode cX2_takenOf 3 = .ok (.istore 4, 2) := by decide +kernel
theorem dX2_takenOf_5 : decode cX2_takenOf 5 = .ok (.iload 4, 2) := by decide +kernel
theorem dX2_takenOf_7 : decode cX2_takenOf 7 = .ok (.aload_n 1, 1) := by decide +kernel
theorem dX2_takenOf_8 : decode cX2_takenOf 8 = .ok (.getfield 101, 3) := by decide +kernel
theorem dX2_takenOf_11 : decode cX2_takenOf 11 = .ok (.if_icmp .ge 34, 3) := by decide +kernel
theorem dX2_takenOf_14 : decode cX2_takenOf 14 = .ok (.aload_n 1, 1) := by decide +kernel
theorem dX2_takenOf_15 : decode cX2_takenOf 15 = .ok (.getfield 104, 3) := by decide +kernel
theorem dX2_takenOf_18 : decode cX2_takenOf 18 = .ok (.iload 4, 2) := by decide +kernel
theorem dX2_takenOf_20 : decode cX2_takenOf 20 = .ok (.invokevirtual 89, 3) := by decide +kernel
theorem dX2_takenOf_23 : decode cX2_takenOf 23 = .ok (.iload_n 2, 1) := by decide +kernel
theorem dX2_takenOf_24 : decode cX2_takenOf 24 = .ok (.if_icmp .ne 15, 3) := by decide +kernel
theorem dX2_takenOf_27 : decode cX2_takenOf 27 = .ok (.iload_n 3, 1) := by decide +kernel
theorem dX2_takenOf_28 : decode cX2_takenOf 28 = .ok (.aload_n 0, 1) := by decide +kernel
theorem dX2_takenOf_29 : decode cX2_takenOf 29 = .ok (.getfield 14, 3) := by decide +kernel
theorem dX2_takenOf_32 : decode cX2_takenOf 32 = .ok (.iload 4, 2) := by decide +kernel
theorem dX2_takenOf_34 : decode cX2_takenOf 34 = .ok (.invokevirtual 89, 3) := by decide +kernel
theorem dX2_takenOf_37 : decode cX2_takenOf 37 = .ok (.iadd, 1) := by decide +kernel
theorem dX2_takenOf_38 : decode cX2_takenOf 38 = .ok (.istore_n 3, 1) := by decide +kernel
theorem dX2_takenOf_39 : decode cX2_takenOf 39 = .ok (.iinc 4 1, 3) := by decide +kernel
theorem dX2_takenOf_42 : decode cX2_takenOf 42 = .ok (.goto (-37), 3) := by decide +kernel
theorem dX2_takenOf_45 : decode cX2_takenOf 45 = .ok (.iload_n 3, 1) := by decide +kernel
theorem dX2_takenOf_46 : decode cX2_takenOf 46 = .ok (.ireturn, 1) := by decide +kernel
theorem dX2_gainOf_0 : decode cX2_gainOf 0 = .ok (.aload_n 0, 1) := by decide +kernel
theorem dX2_gainOf_1 : decode cX2_gainOf 1 = .ok (.aload_n 1, 1) := by decide +kernel
theorem dX2_gainOf_2 : decode cX2_gainOf 2 = .ok (.getfield 32, 3) := by decide +kernel
theorem dX2_gainOf_5 : decode cX2_gainOf 5 = .ok (.iload_n 2, 1) := by decide +kernel
theorem dX2_gainOf_6 : decode cX2_gainOf 6 = .ok (.invokevirtual 107, 3) := by decide +kernel
theorem dX2_gainOf_9 : decode cX2_gainOf 9 = .ok (.aload_n 1, 1) := by decide +kernel
theorem dX2_gainOf_10 : decode cX2_gainOf 10 = .ok (.getfield 111, 3) := by decide +kernel
theorem dX2_gainOf_13 : decode cX2_gainOf 13 = .ok (.iload_n 2, 1) := by decide +kernel
theorem dX2_gainOf_14 : decode cX2_gainOf 14 = .ok (.iload_n 3, 1) := by decide +kernel
theorem dX2_gainOf_15 : decode cX2_gainOf 15 = .ok (.invokevirtual 115, 3) := by decide +kernel
theorem dX2_gainOf_18 : decode cX2_gainOf 18 = .ok (.imul, 1) := by decide +kernel
theorem dX2_gainOf_19 : decode cX2_gainOf 19 = .ok (.ireturn, 1) := by decide +kernel
theorem dX2_pairOff_0 : decode cX2_pairOff 0 = .ok (.aload_n 2, 1) := by decide +kernel
theorem dX2_pairOff_1 : decode cX2_pairOff 1 = .ok (.iconst 0, 1) := by decide +kernel
theorem dX2_pairOff_2 : decode cX2_pairOff 2 = .ok (.putfield 121, 3) := by decide +kernel
theorem dX2_pairOff_5 : decode cX2_pairOff 5 = .ok (.iconst 0, 1) := by decide +kernel
theorem dX2_pairOff_6 : decode cX2_pairOff 6 = .ok (.istore_n 3, 1) := by decide +kernel
theorem dX2_pairOff_7 : decode cX2_pairOff 7 = .ok (.iconst 0, 1) := by decide +kernel
theorem dX2_pairOff_8 : decode cX2_pairOff 8 = .ok (.istore 4, 2) := by decide +kernel
theorem dX2_pairOff_10 : decode cX2_pairOff 10 = .ok (.iconst 0, 1) := by decide +kernel
theorem dX2_pairOff_11 : decode cX2_pairOff 11 = .ok (.istore 5, 2) := by decide +kernel
theorem dX2_pairOff_13 : decode cX2_pairOff 13 = .ok (.iconst 0, 1) := by decide +kernel
theorem dX2_pairOff_14 : decode cX2_pairOff 14 = .ok (.istore 6, 2) := by decide +kernel
theorem dX2_pairOff_16 : decode cX2_pairOff 16 = .ok (.iload_n 3, 1) := by decide +kernel
theorem dX2_pairOff_17 : decode cX2_pairOff 17 = .ok (.aload_n 0, 1) := by decide +kernel
theorem dX2_pairOff_18 : decode cX2_pairOff 18 = .ok (.getfield 42, 3) := by decide +kernel
theorem dX2_pairOff_21 : decode cX2_pairOff 21 = .ok (.if_icmp .ge 134, 3) := by decide +kernel
theorem dX2_pairOff_24 : decode cX2_pairOff 24 = .ok (.iload 4, 2) := by decide +kernel
theorem dX2_pairOff_26 : decode cX2_pairOff 26 = .ok (.aload_n 0, 1) := by decide +kernel
theorem dX2_pairOff_27 : decode cX2_pairOff 27 = .ok (.getfield 46, 3) := by decide +kernel
theorem dX2_pairOff_30 : decode cX2_pairOff 30 = .ok (.if_icmp .ge 125, 3) := by decide +kernel
theorem dX2_pairOff_33 : decode cX2_pairOff 33 = .ok (.aload_n 0, 1) := by decide +kernel
theorem dX2_pairOff_34 : decode cX2_pairOff 34 = .ok (.getfield 14, 3) := by decide +kernel
theorem dX2_pairOff_37 : decode cX2_pairOff 37 = .ok (.aload_n 0, 1) := by decide +kernel
theorem dX2_pairOff_38 : decode cX2_pairOff 38 = .ok (.getfield 20, 3) := by decide +kernel
theorem dX2_pairOff_41 : decode cX2_pairOff 41 = .ok (.iload_n 3, 1) := by decide +kernel
theorem dX2_pairOff_42 : decode cX2_pairOff 42 = .ok (.invokevirtual 89, 3) := by decide +kernel
theorem dX2_pairOff_45 : decode cX2_pairOff 45 = .ok (.invokevirtual 89, 3) := by decide +kernel
theorem dX2_pairOff_48 : decode cX2_pairOff 48 = .ok (.iload 5, 2) := by decide +kernel
theorem dX2_pairOff_50 : decode cX2_pairOff 50 = .ok (.isub, 1) := by decide +kernel
theorem dX2_pairOff_51 : decode cX2_pairOff 51 = .ok (.istore 7, 2) := by decide +kernel
theorem dX2_pairOff_53 : decode cX2_pairOff 53 = .ok (.aload_n 0, 1) := by decide +kernel
theorem dX2_pairOff_54 : decode cX2_pairOff 54 = .ok (.getfield 14, 3) := by decide +kernel
theorem dX2_pairOff_57 : decode cX2_pairOff 57 = .ok (.aload_n 0, 1) := by decide +kernel
theorem dX2_pairOff_58 : decode cX2_pairOff 58 = .ok (.getfield 23, 3) := by decide +kernel
theorem dX2_pairOff_61 : decode cX2_pairOff 61 = .ok (.iload 4, 2) := by decide +kernel
theorem dX2_pairOff_63 : decode cX2_pairOff 63 = .ok (.invokevirtual 89, 3) := by decide +kernel
theorem dX2_pairOff_66 : decode cX2_pairOff 66 = .ok (.invokevirtual 89, 3) := by decide +kernel
theorem dX2_pairOff_69 : decode cX2_pairOff 69 = .ok (.iload 6, 2) := by decide +kernel
theorem dX2_pairOff_71 : decode cX2_pairOff 71 = .ok (.isub, 1) := by decide +kernel
theorem dX2_pairOff_72 : decode cX2_pairOff 72 = .ok (.istore 8, 2) := by decide +kernel
theorem dX2_pairOff_74 : decode cX2_pairOff 74 = .ok (.iload 7, 2) := by decide +kernel
theorem dX2_pairOff_76 : decode cX2_pairOff 76 = .ok (.iload 8, 2) := by decide +kernel
theorem dX2_pairOff_78 : decode cX2_pairOff 78 = .ok (.invokestatic 124, 3) := by decide +kernel
theorem dX2_pairOff_81 : decode cX2_pairOff 81 = .ok (.istore 9, 2) := by decide +kernel
theorem dX2_pairOff_83 : decode cX2_pairOff 83 = .ok (.iload 9, 2) := by decide +kernel
theorem dX2_pairOff_85 : decode cX2_pairOff 85 = .ok (.ifCond .le 27, 3) := by decide +kernel
theorem dX2_pairOff_88 : decode cX2_pairOff 88 = .ok (.aload_n 2, 1) := by decide +kernel
theorem dX2_pairOff_89 : decode cX2_pairOff 89 = .ok (.aload_n 1, 1) := by decide +kernel
theorem dX2_pairOff_90 : decode cX2_pairOff 90 = .ok (.aload_n 0, 1) := by decide +kernel
theorem dX2_pairOff_91 : decode cX2_pairOff 91 = .ok (.getfield 20, 3) := by decide +kernel
theorem dX2_pairOff_94 : decode cX2_pairOff 94 = .ok (.iload_n 3, 1) := by decide +kernel
theorem dX2_pairOff_95 : decode cX2_pairOff 95 = .ok (.invokevirtual 89, 3) := by decide +kernel
theorem dX2_pairOff_98 : decode cX2_pairOff 98 = .ok (.aload_n 0, 1) := by decide +kernel
theorem dX2_pairOff_99 : decode cX2_pairOff 99 = .ok (.getfield 23, 3) := by decide +kernel
theorem dX2_pairOff_102 : decode cX2_pairOff 102 = .ok (.iload 4, 2) := by decide +kernel
theorem dX2_pairOff_104 : decode cX2_pairOff 104 = .ok (.invokevirtual 89, 3) := by decide +kernel
theorem dX2_pairOff_107 : decode cX2_pairOff 107 = .ok (.iload 9, 2) := by decide +kernel
theorem dX2_pairOff_109 : decode cX2_pairOff 109 = .ok (.invokevirtual 129, 3) := by decide +kernel
theorem dX2_pairOff_112 : decode cX2_pairOff 112 = .ok (.iload 5, 2) := by decide +kernel
theorem dX2_pairOff_114 : decode cX2_pairOff 114 = .ok (.iload 9, 2) := by decide +kernel
theorem dX2_pairOff_116 : decode cX2_pairOff 116 = .ok (.iadd, 1) := by decide +kernel
theorem dX2_pairOff_117 : decode cX2_pairOff 117 = .ok (.istore 5, 2) := by decide +kernel
theorem dX2_pairOff_119 : decode cX2_pairOff 119 = .ok (.iload 6, 2) := by decide +kernel
theorem dX2_pairOff_121 : decode cX2_pairOff 121 = .ok (.iload 9, 2) := by decide +kernel
theorem dX2_pairOff_123 : decode cX2_pairOff 123 = .ok (.iadd, 1) := by decide +kernel
theorem dX2_pairOff_124 : decode cX2_pairOff 124 = .ok (.istore 6, 2) := by decide +kernel
theorem dX2_pairOff_126 : decode cX2_pairOff 126 = .ok (.iload 7, 2) := by decide +kernel
theorem dX2_pairOff_128 : decode cX2_pairOff 128 = .ok (.iload 8, 2) := by decide +kernel
theorem dX2_pairOff_130 : decode cX2_pairOff 130 = .ok (.if_icmp .gt 9, 3) := by decide +kernel
theorem dX2_pairOff_133 : decode cX2_pairOff 133 = .ok (.iinc 3 1, 3) := by decide +kernel
theorem dX2_pairOff_136 : decode cX2_pairOff 136 = .ok (.iconst 0, 1) := by decide +kernel
theorem dX2_pairOff_137 : decode cX2_pairOff 137 = .ok (.istore 5, 2) := by decide +kernel
theorem dX2_pairOff_139 : decode cX2_pairOff 139 = .ok (.iload 8, 2) := by decide +kernel
theorem dX2_pairOff_141 : decode cX2_pairOff 141 = .ok (.iload 7, 2) := by decide +kernel
theorem dX2_pairOff_143 : decode cX2_pairOff 143 = .ok (.if_icmp .gt 9, 3) := by decide +kernel
theorem dX2_pairOff_146 : decode cX2_pairOff 146 = .ok (.iinc 4 1, 3) := by decide +kernel
theorem dX2_pairOff_149 : decode cX2_pairOff 149 = .ok (.iconst 0, 1) := by decide +kernel
theorem dX2_pairOff_150 : decode cX2_pairOff 150 = .ok (.istore 6, 2) := by decide +kernel
theorem dX2_pairOff_152 : decode cX2_pairOff 152 = .ok (.goto (-136), 3) := by decide +kernel
theorem dX2_pairOff_155 : decode cX2_pairOff 155 = .ok (.return_, 1) := by decide +kernel
theorem dX2_queueUp_0 : decode cX2_queueUp 0 = .ok (.iconst 0, 1) := by decide +kernel
theorem dX2_queueUp_1 : decode cX2_queueUp 1 = .ok (.istore_n 3, 1) := by decide +kernel
theorem dX2_queueUp_2 : decode cX2_queueUp 2 = .ok (.iconst 0, 1) := by decide +kernel
theorem dX2_queueUp_3 : decode cX2_queueUp 3 = .ok (.istore 4, 2) := by decide +kernel
theorem dX2_queueUp_5 : decode cX2_queueUp 5 = .ok (.iload 4, 2) := by decide +kernel
theorem dX2_queueUp_7 : decode cX2_queueUp 7 = .ok (.aload_n 1, 1) := by decide +kernel
theorem dX2_queueUp_8 : decode cX2_queueUp 8 = .ok (.getfield 101, 3) := by decide +kernel
theorem dX2_queueUp_11 : decode cX2_queueUp 11 = .ok (.if_icmp .ge 78, 3) := by decide +kernel
theorem dX2_queueUp_14 : decode cX2_queueUp 14 = .ok (.aload_n 1, 1) := by decide +kernel
theorem dX2_queueUp_15 : decode cX2_queueUp 15 = .ok (.getfield 133, 3) := by decide +kernel
theorem dX2_queueUp_18 : decode cX2_queueUp 18 = .ok (.iload 4, 2) := by decide +kernel
theorem dX2_queueUp_20 : decode cX2_queueUp 20 = .ok (.invokevirtual 89, 3) := by decide +kernel
theorem dX2_queueUp_23 : decode cX2_queueUp 23 = .ok (.iload_n 2, 1) := by decide +kernel
theorem dX2_queueUp_24 : decode cX2_queueUp 24 = .ok (.if_icmp .ne 59, 3) := by decide +kernel
theorem dX2_queueUp_27 : decode cX2_queueUp 27 = .ok (.iload_n 3, 1) := by decide +kernel
theorem dX2_queueUp_28 : decode cX2_queueUp 28 = .ok (.istore 5, 2) := by decide +kernel
theorem dX2_queueUp_30 : decode cX2_queueUp 30 = .ok (.iload 5, 2) := by decide +kernel
theorem dX2_queueUp_32 : decode cX2_queueUp 32 = .ok (.ifCond .le 40, 3) := by decide +kernel
theorem dX2_queueUp_35 : decode cX2_queueUp 35 = .ok (.aload_n 1, 1) := by decide +kernel
theorem dX2_queueUp_36 : decode cX2_queueUp 36 = .ok (.iload 4, 2) := by decide +kernel
theorem dX2_queueUp_38 : decode cX2_queueUp 38 = .ok (.aload_n 0, 1) := by decide +kernel
theorem dX2_queueUp_39 : decode cX2_queueUp 39 = .ok (.iload 5, 2) := by decide +kernel
theorem dX2_queueUp_41 : decode cX2_queueUp 41 = .ok (.iconst 1, 1) := by decide +kernel
theorem dX2_queueUp_42 : decode cX2_queueUp 42 = .ok (.isub, 1) := by decide +kernel
theorem dX2_queueUp_43 : decode cX2_queueUp 43 = .ok (.invokevirtual 89, 3) := by decide +kernel
theorem dX2_queueUp_46 : decode cX2_queueUp 46 = .ok (.invokevirtual 136, 3) := by decide +kernel
theorem dX2_queueUp_49 : decode cX2_queueUp 49 = .ok (.ifCond .eq 23, 3) := by decide +kernel
theorem dX2_queueUp_52 : decode cX2_queueUp 52 = .ok (.aload_n 0, 1) := by decide +kernel
theorem dX2_queueUp_53 : decode cX2_queueUp 53 = .ok (.iload 5, 2) := by decide +kernel
theorem dX2_queueUp_55 : decode cX2_queueUp 55 = .ok (.aload_n 0, 1) := by decide +kernel
theorem dX2_queueUp_56 : decode cX2_queueUp 56 = .ok (.iload 5, 2) := by decide +kernel
theorem dX2_queueUp_58 : decode cX2_queueUp 58 = .ok (.iconst 1, 1) := by decide +kernel
theorem dX2_queueUp_59 : decode cX2_queueUp 59 = .ok (.isub, 1) := by decide +kernel
theorem dX2_queueUp_60 : decode cX2_queueUp 60 = .ok (.invokevirtual 89, 3) := by decide +kernel
theorem dX2_queueUp_63 : decode cX2_queueUp 63 = .ok (.invokevirtual 139, 3) := by decide +kernel
theorem dX2_queueUp_66 : decode cX2_queueUp 66 = .ok (.iinc 5 (-1), 3) := by decide +kernel
theorem dX2_queueUp_69 : decode cX2_queueUp 69 = .ok (.goto (-39), 3) := by decide +kernel
theorem dX2_queueUp_72 : decode cX2_queueUp 72 = .ok (.aload_n 0, 1) := by decide +kernel
theorem dX2_queueUp_73 : decode cX2_queueUp 73 = .ok (.iload 5, 2) := by decide +kernel
theorem dX2_queueUp_75 : decode cX2_queueUp 75 = .ok (.iload 4, 2) := by decide +kernel
theorem dX2_queueUp_77 : decode cX2_queueUp 77 = .ok (.invokevirtual 139, 3) := by decide +kernel
theorem dX2_queueUp_80 : decode cX2_queueUp 80 = .ok (.iinc 3 1, 3) := by decide +kernel
theorem dX2_queueUp_83 : decode cX2_queueUp 83 = .ok (.iinc 4 1, 3) := by decide +kernel
theorem dX2_queueUp_86 : decode cX2_queueUp 86 = .ok (.goto (-81), 3) := by decide +kernel
theorem dX2_queueUp_89 : decode cX2_queueUp 89 = .ok (.iload_n 3, 1) := by decide +kernel
theorem dX2_queueUp_90 : decode cX2_queueUp 90 = .ok (.ireturn, 1) := by decide +kernel
theorem dX2_findRange_0 : decode cX2_findRange 0 = .ok (.aload_n 0, 1) := by decide +kernel
theorem dX2_findRange_1 : decode cX2_findRange 1 = .ok (.aload_n 1, 1) := by decide +kernel
theorem dX2_findRange_2 : decode cX2_findRange 2 = .ok (.invokevirtual 143, 3) := by decide +kernel
theorem dX2_findRange_5 : decode cX2_findRange 5 = .ok (.istore_n 2, 1) := by decide +kernel
theorem dX2_findRange_6 : decode cX2_findRange 6 = .ok (.iconst 0, 1) := by decide +kernel
theorem dX2_findRange_7 : decode cX2_findRange 7 = .ok (.istore_n 3, 1) := by decide +kernel
theorem dX2_findRange_8 : decode cX2_findRange 8 = .ok (.aload_n 0, 1) := by decide +kernel
theorem dX2_findRange_9 : decode cX2_findRange 9 = .ok (.iconst 0, 1) := by decide +kernel
theorem dX2_findRange_10 : decode cX2_findRange 10 = .ok (.putfield 74, 3) := by decide +kernel
theorem dX2_findRange_13 : decode cX2_findRange 13 = .ok (.aload_n 0, 1) := by decide +kernel
theorem dX2_findRange_14 : decode cX2_findRange 14 = .ok (.sipush (-10000), 3) := by decide +kernel
theorem dX2_findRange_17 : decode cX2_findRange 17 = .ok (.putfield 77, 3) := by decide +kernel
theorem dX2_findRange_20 : decode cX2_findRange 20 = .ok (.aload_n 0, 1) := by decide +kernel
theorem dX2_findRange_21 : decode cX2_findRange 21 = .ok (.sipush (-10000), 3) := by decide +kernel
theorem dX2_findRange_24 : decode cX2_findRange 24 = .ok (.putfield 80, 3) := by decide +kernel
theorem dX2_findRange_27 : decode cX2_findRange 27 = .ok (.iconst 1, 1) := by decide +kernel
theorem dX2_findRange_28 : decode cX2_findRange 28 = .ok (.istore 4, 2) := by decide +kernel
theorem dX2_findRange_30 : decode cX2_findRange 30 = .ok (.iload 4, 2) := by decide +kernel
theorem dX2_findRange_32 : decode cX2_findRange 32 = .ok (.bipush 120, 2) := by decide +kernel
theorem dX2_findRange_34 : decode cX2_findRange 34 = .ok (.if_icmp .gt 85, 3) := by decide +kernel
theorem dX2_findRange_37 : decode cX2_findRange 37 = .ok (.iload_n 2, 1) := by decide +kernel
theorem dX2_findRange_38 : decode cX2_findRange 38 = .ok (.aload_n 0, 1) := by decide +kernel
theorem dX2_findRange_39 : decode cX2_findRange 39 = .ok (.getfield 26, 3) := by decide +kernel
theorem dX2_findRange_42 : decode cX2_findRange 42 = .ok (.iload 4, 2) := by decide +kernel
theorem dX2_findRange_44 : decode cX2_findRange 44 = .ok (.iconst 1, 1) := by decide +kernel
theorem dX2_findRange_45 : decode cX2_findRange 45 = .ok (.isub, 1) := by decide +kernel
theorem dX2_findRange_46 : decode cX2_findRange 46 = .ok (.invokevirtual 89, 3) := by decide +kernel
theorem dX2_findRange_49 : decode cX2_findRange 49 = .ok (.isub, 1) := by decide +kernel
theorem dX2_findRange_50 : decode cX2_findRange 50 = .ok (.istore_n 2, 1) := by decide +kernel
theorem dX2_findRange_51 : decode cX2_findRange 51 = .ok (.iload_n 3, 1) := by decide +kernel
theorem dX2_findRange_52 : decode cX2_findRange 52 = .ok (.aload_n 0, 1) := by decide +kernel
theorem dX2_findRange_53 : decode cX2_findRange 53 = .ok (.getfield 29, 3) := by decide +kernel
theorem dX2_findRange_56 : decode cX2_findRange 56 = .ok (.iload 4, 2) := by decide +kernel
theorem dX2_findRange_58 : decode cX2_findRange 58 = .ok (.invokevirtual 89, 3) := by decide +kernel
theorem dX2_findRange_61 : decode cX2_findRange 61 = .ok (.iadd, 1) := by decide +kernel
theorem dX2_findRange_62 : decode cX2_findRange 62 = .ok (.istore_n 3, 1) := by decide +kernel
theorem dX2_findRange_63 : decode cX2_findRange 63 = .ok (.iload_n 2, 1) := by decide +kernel
theorem dX2_findRange_64 : decode cX2_findRange 64 = .ok (.iload_n 3, 1) := by decide +kernel
theorem dX2_findRange_65 : decode cX2_findRange 65 = .ok (.invokestatic 124, 3) := by decide +kernel
theorem dX2_findRange_68 : decode cX2_findRange 68 = .ok (.istore 5, 2) := by decide +kernel
theorem dX2_findRange_70 : decode cX2_findRange 70 = .ok (.iload 5, 2) := by decide +kernel
theorem dX2_findRange_72 : decode cX2_findRange 72 = .ok (.aload_n 0, 1) := by decide +kernel
theorem dX2_findRange_73 : decode cX2_findRange 73 = .ok (.getfield 74, 3) := by decide +kernel
theorem dX2_findRange_76 : decode cX2_findRange 76 = .ok (.if_icmp .le 15, 3) := by decide +kernel
theorem dX2_findRange_79 : decode cX2_findRange 79 = .ok (.aload_n 0, 1) := by decide +kernel
theorem dX2_findRange_80 : decode cX2_findRange 80 = .ok (.iload 5, 2) := by decide +kernel
theorem dX2_findRange_82 : decode cX2_findRange 82 = .ok (.putfield 74, 3) := by decide +kernel
theorem dX2_findRange_85 : decode cX2_findRange 85 = .ok (.aload_n 0, 1) := by decide +kernel
theorem dX2_findRange_86 : decode cX2_findRange 86 = .ok (.iload 4, 2) := by decide +kernel
theorem dX2_findRange_88 : decode cX2_findRange 88 = .ok (.putfield 77, 3) := by decide +kernel
theorem dX2_findRange_91 : decode cX2_findRange 91 = .ok (.iload 5, 2) := by decide +kernel
theorem dX2_findRange_93 : decode cX2_findRange 93 = .ok (.aload_n 0, 1) := by decide +kernel
theorem dX2_findRange_94 : decode cX2_findRange 94 = .ok (.getfield 74, 3) := by decide +kernel
theorem dX2_findRange_97 : decode cX2_findRange 97 = .ok (.if_icmp .ne 16, 3) := by decide +kernel
theorem dX2_findRange_100 : decode cX2_findRange 100 = .ok (.aload_n 0, 1) := by decide +kernel
theorem dX2_findRange_101 : decode cX2_findRange 101 = .ok (.getfield 74, 3) := by decide +kernel
theorem dX2_findRange_104 : decode cX2_findRange 104 = .ok (.ifCond .le 9, 3) := by decide +kernel
theorem dX2_findRange_107 : decode cX2_findRange 107 = .ok (.aload_n 0, 1) := by decide +kernel
theorem dX2_findRange_108 : decode cX2_findRange 108 = .ok (.iload 4, 2) := by decide +kernel
theorem dX2_findRange_110 : decode cX2_findRange 110 = .ok (.putfield 80, 3) := by decide +kernel
theorem dX2_findRange_113 : decode cX2_findRange 113 = .ok (.iinc 4 1, 3) := by decide +kernel
theorem dX2_findRange_116 : decode cX2_findRange 116 = .ok (.goto (-86), 3) := by decide +kernel
theorem dX2_findRange_119 : decode cX2_findRange 119 = .ok (.return_, 1) := by decide +kernel
theorem dX2_tallyPrices_0 : decode cX2_tallyPrices 0 = .ok (.aload_n 0, 1) := by decide +kernel
theorem dX2_tallyPrices_1 : decode cX2_tallyPrices 1 = .ok (.getfield 26, 3) := by decide +kernel
theorem dX2_tallyPrices_4 : decode cX2_tallyPrices 4 = .ok (.invokevirtual 147, 3) := by decide +kernel
theorem dX2_tallyPrices_7 : decode cX2_tallyPrices 7 = .ok (.aload_n 0, 1) := by decide +kernel
theorem dX2_tallyPrices_8 : decode cX2_tallyPrices 8 = .ok (.getfield 29, 3) := by decide +kernel
theorem dX2_tallyPrices_11 : decode cX2_tallyPrices 11 = .ok (.invokevirtual 147, 3) := by decide +kernel
theorem dX2_tallyPrices_14 : decode cX2_tallyPrices 14 = .ok (.iconst 0, 1) := by decide +kernel
theorem dX2_tallyPrices_15 : decode cX2_tallyPrices 15 = .ok (.istore_n 2, 1) := by decide +kernel
theorem dX2_tallyPrices_16 : decode cX2_tallyPrices 16 = .ok (.iconst 0, 1) := by decide +kernel
theorem dX2_tallyPrices_17 : decode cX2_tallyPrices 17 = .ok (.istore_n 3, 1) := by decide +kernel
theorem dX2_tallyPrices_18 : decode cX2_tallyPrices 18 = .ok (.iload_n 3, 1) := by decide +kernel
theorem dX2_tallyPrices_19 : decode cX2_tallyPrices 19 = .ok (.aload_n 1, 1) := by decide +kernel
theorem dX2_tallyPrices_20 : decode cX2_tallyPrices 20 = .ok (.getfield 101, 3) := by decide +kernel
theorem dX2_tallyPrices_23 : decode cX2_tallyPrices 23 = .ok (.if_icmp .ge 80, 3) := by decide +kernel
theorem dX2_tallyPrices_26 : decode cX2_tallyPrices 26 = .ok (.aload_n 1, 1) := by decide +kernel
theorem dX2_tallyPrices_27 : decode cX2_tallyPrices 27 = .ok (.getfield 133, 3) := by decide +kernel
theorem dX2_tallyPrices_30 : decode cX2_tallyPrices 30 = .ok (.iload_n 3, 1) := by decide +kernel
theorem dX2_tallyPrices_31 : decode cX2_tallyPrices 31 = .ok (.invokevirtual 89, 3) := by decide +kernel
theorem dX2_tallyPrices_34 : decode cX2_tallyPrices 34 = .ok (.ifCond .ne 40, 3) := by decide +kernel
theorem dX2_tallyPrices_37 : decode cX2_tallyPrices 37 = .ok (.aload_n 0, 1) := by decide +kernel
theorem dX2_tallyPrices_38 : decode cX2_tallyPrices 38 = .ok (.getfield 26, 3) := by decide +kernel
theorem dX2_tallyPrices_41 : decode cX2_tallyPrices 41 = .ok (.aload_n 1, 1) := by decide +kernel
theorem dX2_tallyPrices_42 : decode cX2_tallyPrices 42 = .ok (.getfield 150, 3) := by decide +kernel
theorem dX2_tallyPrices_45 : decode cX2_tallyPrices 45 = .ok (.iload_n 3, 1) := by decide +kernel
theorem dX2_tallyPrices_46 : decode cX2_tallyPrices 46 = .ok (.invokevirtual 89, 3) := by decide +kernel
theorem dX2_tallyPrices_49 : decode cX2_tallyPrices 49 = .ok (.aload_n 1, 1) := by decide +kernel
theorem dX2_tallyPrices_50 : decode cX2_tallyPrices 50 = .ok (.getfield 92, 3) := by decide +kernel
theorem dX2_tallyPrices_53 : decode cX2_tallyPrices 53 = .ok (.iload_n 3, 1) := by decide +kernel
theorem dX2_tallyPrices_54 : decode cX2_tallyPrices 54 = .ok (.invokevirtual 89, 3) := by decide +kernel
theorem dX2_tallyPrices_57 : decode cX2_tallyPrices 57 = .ok (.invokevirtual 152, 3) := by decide +kernel
theorem dX2_tallyPrices_60 : decode cX2_tallyPrices 60 = .ok (.iload_n 2, 1) := by decide +kernel
theorem dX2_tallyPrices_61 : decode cX2_tallyPrices 61 = .ok (.aload_n 1, 1) := by decide +kernel
theorem dX2_tallyPrices_62 : decode cX2_tallyPrices 62 = .ok (.getfield 92, 3) := by decide +kernel
theorem dX2_tallyPrices_65 : decode cX2_tallyPrices 65 = .ok (.iload_n 3, 1) := by decide +kernel
theorem dX2_tallyPrices_66 : decode cX2_tallyPrices 66 = .ok (.invokevirtual 89, 3) := by decide +kernel
theorem dX2_tallyPrices_69 : decode cX2_tallyPrices 69 = .ok (.iadd, 1) := by decide +kernel
theorem dX2_tallyPrices_70 : decode cX2_tallyPrices 70 = .ok (.istore_n 2, 1) := by decide +kernel
theorem dX2_tallyPrices_71 : decode cX2_tallyPrices 71 = .ok (.goto 26, 3) := by decide +kernel
theorem dX2_tallyPrices_74 : decode cX2_tallyPrices 74 = .ok (.aload_n 0, 1) := by decide +kernel
theorem dX2_tallyPrices_75 : decode cX2_tallyPrices 75 = .ok (.getfield 29, 3) := by decide +kernel
theorem dX2_tallyPrices_78 : decode cX2_tallyPrices 78 = .ok (.aload_n 1, 1) := by decide +kernel
theorem dX2_tallyPrices_79 : decode cX2_tallyPrices 79 = .ok (.getfield 150, 3) := by decide +kernel
theorem dX2_tallyPrices_82 : decode cX2_tallyPrices 82 = .ok (.iload_n 3, 1) := by decide +kernel
theorem dX2_tallyPrices_83 : decode cX2_tallyPrices 83 = .ok (.invokevirtual 89, 3) := by decide +kernel
theorem dX2_tallyPrices_86 : decode cX2_tallyPrices 86 = .ok (.aload_n 1, 1) := by decide +kernel
theorem dX2_tallyPrices_87 : decode cX2_tallyPrices 87 = .ok (.getfield 92, 3) := by decide +kernel
theorem dX2_tallyPrices_90 : decode cX2_tallyPrices 90 = .ok (.iload_n 3, 1) := by decide +kernel
theorem dX2_tallyPrices_91 : decode cX2_tallyPrices 91 = .ok (.invokevirtual 89, 3) := by decide +kernel
theorem dX2_tallyPrices_94 : decode cX2_tallyPrices 94 = .ok (.invokevirtual 152, 3) := by decide +kernel
theorem dX2_tallyPrices_97 : decode cX2_tallyPrices 97 = .ok (.iinc 3 1, 3) := by decide +kernel
theorem dX2_tallyPrices_100 : decode cX2_tallyPrices 100 = .ok (.goto (-82), 3) := by decide +kernel
theorem dX2_tallyPrices_103 : decode cX2_tallyPrices 103 = .ok (.iload_n 2, 1) := by decide +kernel
theorem dX2_tallyPrices_104 : decode cX2_tallyPrices 104 = .ok (.ireturn, 1) := by decide +kernel
theorem dX2_take_0 : decode cX2_take 0 = .ok (.aload_n 0, 1) := by decide +kernel
theorem dX2_take_1 : decode cX2_take 1 = .ok (.getfield 74, 3) := by decide +kernel
theorem dX2_take_4 : decode cX2_take 4 = .ok (.istore 4, 2) := by decide +kernel
theorem dX2_take_6 : decode cX2_take 6 = .ok (.iconst 0, 1) := by decide +kernel
theorem dX2_take_7 : decode cX2_take 7 = .ok (.istore 5, 2) := by decide +kernel
theorem dX2_take_9 : decode cX2_take 9 = .ok (.iload 5, 2) := by decide +kernel
theorem dX2_take_11 : decode cX2_take 11 = .ok (.iload_n 2, 1) := by decide +kernel
theorem dX2_take_12 : decode cX2_take 12 = .ok (.if_icmp .ge 51, 3) := by decide +kernel
theorem dX2_take_15 : decode cX2_take 15 = .ok (.aload_n 1, 1) := by decide +kernel
theorem dX2_take_16 : decode cX2_take 16 = .ok (.iload 5, 2) := by decide +kernel
theorem dX2_take_18 : decode cX2_take 18 = .ok (.invokevirtual 89, 3) := by decide +kernel
theorem dX2_take_21 : decode cX2_take 21 = .ok (.istore 6, 2) := by decide +kernel
theorem dX2_take_23 : decode cX2_take 23 = .ok (.iload 4, 2) := by decide +kernel
theorem dX2_take_25 : decode cX2_take 25 = .ok (.aload_n 3, 1) := by decide +kernel
theorem dX2_take_26 : decode cX2_take 26 = .ok (.getfield 92, 3) := by decide +kernel
theorem dX2_take_29 : decode cX2_take 29 = .ok (.iload 6, 2) := by decide +kernel
theorem dX2_take_31 : decode cX2_take 31 = .ok (.invokevirtual 89, 3) := by decide +kernel
theorem dX2_take_34 : decode cX2_take 34 = .ok (.invokestatic 124, 3) := by decide +kernel
theorem dX2_take_37 : decode cX2_take 37 = .ok (.istore 7, 2) := by decide +kernel
theorem dX2_take_39 : decode cX2_take 39 = .ok (.aload_n 0, 1) := by decide +kernel
theorem dX2_take_40 : decode cX2_take 40 = .ok (.getfield 14, 3) := by decide +kernel
theorem dX2_take_43 : decode cX2_take 43 = .ok (.iload 6, 2) := by decide +kernel
theorem dX2_take_45 : decode cX2_take 45 = .ok (.iload 7, 2) := by decide +kernel
theorem dX2_take_47 : decode cX2_take 47 = .ok (.invokevirtual 139, 3) := by decide +kernel
theorem dX2_take_50 : decode cX2_take 50 = .ok (.iload 4, 2) := by decide +kernel
theorem dX2_take_52 : decode cX2_take 52 = .ok (.iload 7, 2) := by decide +kernel
theorem dX2_take_54 : decode cX2_take 54 = .ok (.isub, 1) := by decide +kernel
theorem dX2_take_55 : decode cX2_take 55 = .ok (.istore 4, 2) := by decide +kernel
theorem dX2_take_57 : decode cX2_take 57 = .ok (.iinc 5 1, 3) := by decide +kernel
theorem dX2_take_60 : decode cX2_take 60 = .ok (.goto (-51), 3) := by decide +kernel
theorem dX2_take_63 : decode cX2_take 63 = .ok (.return_, 1) := by decide +kernel
theorem dX2_sumSurplus_0 : decode cX2_sumSurplus 0 = .ok (.iconst 0, 1) := by decide +kernel
theorem dX2_sumSurplus_1 : decode cX2_sumSurplus 1 = .ok (.istore_n 2, 1) := by decide +kernel
theorem dX2_sumSurplus_2 : decode cX2_sumSurplus 2 = .ok (.iconst 0, 1) := by decide +kernel
theorem dX2_sumSurplus_3 : decode cX2_sumSurplus 3 = .ok (.istore_n 3, 1) := by decide +kernel
theorem dX2_sumSurplus_4 : decode cX2_sumSurplus 4 = .ok (.iload_n 3, 1) := by decide +kernel
theorem dX2_sumSurplus_5 : decode cX2_sumSurplus 5 = .ok (.aload_n 1, 1) := by decide +kernel
theorem dX2_sumSurplus_6 : decode cX2_sumSurplus 6 = .ok (.getfield 32, 3) := by decide +kernel
theorem dX2_sumSurplus_9 : decode cX2_sumSurplus 9 = .ok (.getfield 101, 3) := by decide +kernel
theorem dX2_sumSurplus_12 : decode cX2_sumSurplus 12 = .ok (.if_icmp .ge 66, 3) := by decide +kernel
theorem dX2_sumSurplus_15 : decode cX2_sumSurplus 15 = .ok (.aload_n 1, 1) := by decide +kernel
theorem dX2_sumSurplus_16 : decode cX2_sumSurplus 16 = .ok (.getfield 111, 3) := by decide +kernel
theorem dX2_sumSurplus_19 : decode cX2_sumSurplus 19 = .ok (.getfield 155, 3) := by decide +kernel
theorem dX2_sumSurplus_22 : decode cX2_sumSurplus 22 = .ok (.aload_n 1, 1) := by decide +kernel
theorem dX2_sumSurplus_23 : decode cX2_sumSurplus 23 = .ok (.getfield 32, 3) := by decide +kernel
theorem dX2_sumSurplus_26 : decode cX2_sumSurplus 26 = .ok (.getfield 104, 3) := by decide +kernel
theorem dX2_sumSurplus_29 : decode cX2_sumSurplus 29 = .ok (.iload_n 3, 1) := by decide +kernel
theorem dX2_sumSurplus_30 : decode cX2_sumSurplus 30 = .ok (.invokevirtual 89, 3) := by decide +kernel
theorem dX2_sumSurplus_33 : decode cX2_sumSurplus 33 = .ok (.invokevirtual 89, 3) := by decide +kernel
theorem dX2_sumSurplus_36 : decode cX2_sumSurplus 36 = .ok (.aload_n 0, 1) := by decide +kernel
theorem dX2_sumSurplus_37 : decode cX2_sumSurplus 37 = .ok (.getfield 14, 3) := by decide +kernel
theorem dX2_sumSurplus_40 : decode cX2_sumSurplus 40 = .ok (.iload_n 3, 1) := by decide +kernel
theorem dX2_sumSurplus_41 : decode cX2_sumSurplus 41 = .ok (.invokevirtual 89, 3) := by decide +kernel
theorem dX2_sumSurplus_44 : decode cX2_sumSurplus 44 = .ok (.imul, 1) := by decide +kernel
theorem dX2_sumSurplus_45 : decode cX2_sumSurplus 45 = .ok (.istore 4, 2) := by decide +kernel
theorem dX2_sumSurplus_47 : decode cX2_sumSurplus 47 = .ok (.iload_n 2, 1) := by decide +kernel
theorem dX2_sumSurplus_48 : decode cX2_sumSurplus 48 = .ok (.aload_n 1, 1) := by decide +kernel
theorem dX2_sumSurplus_49 : decode cX2_sumSurplus 49 = .ok (.getfield 32, 3) := by decide +kernel
theorem dX2_sumSurplus_52 : decode cX2_sumSurplus 52 = .ok (.getfield 133, 3) := by decide +kernel
theorem dX2_sumSurplus_55 : decode cX2_sumSurplus 55 = .ok (.iload_n 3, 1) := by decide +kernel
theorem dX2_sumSurplus_56 : decode cX2_sumSurplus 56 = .ok (.invokevirtual 89, 3) := by decide +kernel
theorem dX2_sumSurplus_59 : decode cX2_sumSurplus 59 = .ok (.ifCond .ne 8, 3) := by decide +kernel
theorem dX2_sumSurplus_62 : decode cX2_sumSurplus 62 = .ok (.iload 4, 2) := by decide +kernel
theorem dX2_sumSurplus_64 : decode cX2_sumSurplus 64 = .ok (.goto 6, 3) := by decide +kernel
theorem dX2_sumSurplus_67 : decode cX2_sumSurplus 67 = .ok (.iload 4, 2) := by decide +kernel
theorem dX2_sumSurplus_69 : decode cX2_sumSurplus 69 = .ok (.ineg, 1) := by decide +kernel
theorem dX2_sumSurplus_70 : decode cX2_sumSurplus 70 = .ok (.iadd, 1) := by decide +kernel
theorem dX2_sumSurplus_71 : decode cX2_sumSurplus 71 = .ok (.istore_n 2, 1) := by decide +kernel
theorem dX2_sumSurplus_72 : decode cX2_sumSurplus 72 = .ok (.iinc 3 1, 3) := by decide +kernel
theorem dX2_sumSurplus_75 : decode cX2_sumSurplus 75 = .ok (.goto (-71), 3) := by decide +kernel
theorem dX2_sumSurplus_78 : decode cX2_sumSurplus 78 = .ok (.iload_n 2, 1) := by decide +kernel
theorem dX2_sumSurplus_79 : decode cX2_sumSurplus 79 = .ok (.ireturn, 1) := by decide +kernel
theorem dX2_findGreatest_0 : decode cX2_findGreatest 0 = .ok (.aload_n 0, 1) := by decide +kernel
theorem dX2_findGreatest_1 : decode cX2_findGreatest 1 = .ok (.aload_n 1, 1) := by decide +kernel
theorem dX2_findGreatest_2 : decode cX2_findGreatest 2 = .ok (.invokevirtual 158, 3) := by decide +kernel
theorem dX2_findGreatest_5 : decode cX2_findGreatest 5 = .ok (.bipush 99, 2) := by decide +kernel
theorem dX2_findGreatest_7 : decode cX2_findGreatest 7 = .ok (.istore_n 2, 1) := by decide +kernel
theorem dX2_findGreatest_8 : decode cX2_findGreatest 8 = .ok (.iconst 1, 1) := by decide +kernel
theorem dX2_findGreatest_9 : decode cX2_findGreatest 9 = .ok (.istore_n 3, 1) := by decide +kernel
theorem dX2_findGreatest_10 : decode cX2_findGreatest 10 = .ok (.iconst 0, 1) := by decide +kernel
theorem dX2_findGreatest_11 : decode cX2_findGreatest 11 = .ok (.istore 4, 2) := by decide +kernel
theorem dX2_findGreatest_13 : decode cX2_findGreatest 13 = .ok (.iload_n 2, 1) := by decide +kernel
theorem dX2_findGreatest_14 : decode cX2_findGreatest 14 = .ok (.iload_n 3, 1) := by decide +kernel
theorem dX2_findGreatest_15 : decode cX2_findGreatest 15 = .ok (.if_icmp .le 80, 3) := by decide +kernel
theorem dX2_findGreatest_18 : decode cX2_findGreatest 18 = .ok (.aload_n 0, 1) := by decide +kernel
theorem dX2_findGreatest_19 : decode cX2_findGreatest 19 = .ok (.getfield 26, 3) := by decide +kernel
theorem dX2_findGreatest_22 : decode cX2_findGreatest 22 = .ok (.iload_n 2, 1) := by decide +kernel
theorem dX2_findGreatest_23 : decode cX2_findGreatest 23 = .ok (.invokevirtual 89, 3) := by decide +kernel
theorem dX2_findGreatest_26 : decode cX2_findGreatest 26 = .ok (.aload_n 0, 1) := by decide +kernel
theorem dX2_findGreatest_27 : decode cX2_findGreatest 27 = .ok (.getfield 29, 3) := by decide +kernel
theorem dX2_findGreatest_30 : decode cX2_findGreatest 30 = .ok (.iload_n 3, 1) := by decide +kernel
theorem dX2_findGreatest_31 : decode cX2_findGreatest 31 = .ok (.invokevirtual 89, 3) := by decide +kernel
theorem dX2_findGreatest_34 : decode cX2_findGreatest 34 = .ok (.invokestatic 124, 3) := by decide +kernel
theorem dX2_findGreatest_37 : decode cX2_findGreatest 37 = .ok (.istore 5, 2) := by decide +kernel
theorem dX2_findGreatest_39 : decode cX2_findGreatest 39 = .ok (.iload 4, 2) := by decide +kernel
theorem dX2_findGreatest_41 : decode cX2_findGreatest 41 = .ok (.iload 5, 2) := by decide +kernel
theorem dX2_findGreatest_43 : decode cX2_findGreatest 43 = .ok (.iload_n 2, 1) := by decide +kernel
theorem dX2_findGreatest_44 : decode cX2_findGreatest 44 = .ok (.iload_n 3, 1) := by decide +kernel
theorem dX2_findGreatest_45 : decode cX2_findGreatest 45 = .ok (.isub, 1) := by decide +kernel
theorem dX2_findGreatest_46 : decode cX2_findGreatest 46 = .ok (.imul, 1) := by decide +kernel
theorem dX2_findGreatest_47 : decode cX2_findGreatest 47 = .ok (.iadd, 1) := by decide +kernel
theorem dX2_findGreatest_48 : decode cX2_findGreatest 48 = .ok (.istore 4, 2) := by decide +kernel
theorem dX2_findGreatest_50 : decode cX2_findGreatest 50 = .ok (.aload_n 0, 1) := by decide +kernel
theorem dX2_findGreatest_51 : decode cX2_findGreatest 51 = .ok (.getfield 26, 3) := by decide +kernel
theorem dX2_findGreatest_54 : decode cX2_findGreatest 54 = .ok (.iload_n 2, 1) := by decide +kernel
theorem dX2_findGreatest_55 : decode cX2_findGreatest 55 = .ok (.iload 5, 2) := by decide +kernel
theorem dX2_findGreatest_57 : decode cX2_findGreatest 57 = .ok (.ineg, 1) := by decide +kernel
theorem dX2_findGreatest_58 : decode cX2_findGreatest 58 = .ok (.invokevirtual 152, 3) := by decide +kernel
theorem dX2_findGreatest_61 : decode cX2_findGreatest 61 = .ok (.aload_n 0, 1) := by decide +kernel
theorem dX2_findGreatest_62 : decode cX2_findGreatest 62 = .ok (.getfield 29, 3) := by decide +kernel
theorem dX2_findGreatest_65 : decode cX2_findGreatest 65 = .ok (.iload_n 3, 1) := by decide +kernel
theorem dX2_findGreatest_66 : decode cX2_findGreatest 66 = .ok (.iload 5, 2) := by decide +kernel
theorem dX2_findGreatest_68 : decode cX2_findGreatest 68 = .ok (.ineg, 1) := by decide +kernel
theorem dX2_findGreatest_69 : decode cX2_findGreatest 69 = .ok (.invokevirtual 152, 3) := by decide +kernel
theorem dX2_findGreatest_72 : decode cX2_findGreatest 72 = .ok (.aload_n 0, 1) := by decide +kernel
theorem dX2_findGreatest_73 : decode cX2_findGreatest 73 = .ok (.getfield 26, 3) := by decide +kernel
theorem dX2_findGreatest_76 : decode cX2_findGreatest 76 = .ok (.iload_n 2, 1) := by decide +kernel
theorem dX2_findGreatest_77 : decode cX2_findGreatest 77 = .ok (.invokevirtual 89, 3) := by decide +kernel
theorem dX2_findGreatest_80 : decode cX2_findGreatest 80 = .ok (.ifCond .ne 9, 3) := by decide +kernel
theorem dX2_findGreatest_83 : decode cX2_findGreatest 83 = .ok (.iinc 2 (-1), 3) := by decide +kernel
theorem dX2_findGreatest_86 : decode cX2_findGreatest 86 = .ok (.goto 6, 3) := by decide +kernel
theorem dX2_findGreatest_89 : decode cX2_findGreatest 89 = .ok (.iinc 3 1, 3) := by decide +kernel
theorem dX2_findGreatest_92 : decode cX2_findGreatest 92 = .ok (.goto (-79), 3) := by decide +kernel
theorem dX2_findGreatest_95 : decode cX2_findGreatest 95 = .ok (.iload 4, 2) := by decide +kernel
theorem dX2_findGreatest_97 : decode cX2_findGreatest 97 = .ok (.ireturn, 1) := by decide +kernel
theorem dX2_tallyValues_0 : decode cX2_tallyValues 0 = .ok (.aload_n 0, 1) := by decide +kernel
theorem dX2_tallyValues_1 : decode cX2_tallyValues 1 = .ok (.getfield 26, 3) := by decide +kernel
theorem dX2_tallyValues_4 : decode cX2_tallyValues 4 = .ok (.invokevirtual 147, 3) := by decide +kernel
theorem dX2_tallyValues_7 : decode cX2_tallyValues 7 = .ok (.aload_n 0, 1) := by decide +kernel
theorem dX2_tallyValues_8 : decode cX2_tallyValues 8 = .ok (.getfield 29, 3) := by decide +kernel
theorem dX2_tallyValues_11 : decode cX2_tallyValues 11 = .ok (.invokevirtual 147, 3) := by decide +kernel
theorem dX2_tallyValues_14 : decode cX2_tallyValues 14 = .ok (.iconst 0, 1) := by decide +kernel
theorem dX2_tallyValues_15 : decode cX2_tallyValues 15 = .ok (.istore_n 2, 1) := by decide +kernel
theorem dX2_tallyValues_16 : decode cX2_tallyValues 16 = .ok (.iload_n 2, 1) := by decide +kernel
theorem dX2_tallyValues_17 : decode cX2_tallyValues 17 = .ok (.aload_n 1, 1) := by decide +kernel
theorem dX2_tallyValues_18 : decode cX2_tallyValues 18 = .ok (.getfield 32, 3) := by decide +kernel
theorem dX2_tallyValues_21 : decode cX2_tallyValues 21 = .ok (.getfield 101, 3) := by decide +kernel
theorem dX2_tallyValues_24 : decode cX2_tallyValues 24 = .ok (.if_icmp .ge 75, 3) := by decide +kernel
theorem dX2_tallyValues_27 : decode cX2_tallyValues 27 = .ok (.aload_n 1, 1) := by decide +kernel
theorem dX2_tallyValues_28 : decode cX2_tallyValues 28 = .ok (.getfield 111, 3) := by decide +kernel
theorem dX2_tallyValues_31 : decode cX2_tallyValues 31 = .ok (.getfield 155, 3) := by decide +kernel
theorem dX2_tallyValues_34 : decode cX2_tallyValues 34 = .ok (.aload_n 1, 1) := by decide +kernel
theorem dX2_tallyValues_35 : decode cX2_tallyValues 35 = .ok (.getfield 32, 3) := by decide +kernel
theorem dX2_tallyValues_38 : decode cX2_tallyValues 38 = .ok (.getfield 104, 3) := by decide +kernel
theorem dX2_tallyValues_41 : decode cX2_tallyValues 41 = .ok (.iload_n 2, 1) := by decide +kernel
theorem dX2_tallyValues_42 : decode cX2_tallyValues 42 = .ok (.invokevirtual 89, 3) := by decide +kernel
theorem dX2_tallyValues_45 : decode cX2_tallyValues 45 = .ok (.invokevirtual 89, 3) := by decide +kernel
theorem dX2_tallyValues_48 : decode cX2_tallyValues 48 = .ok (.istore_n 3, 1) := by decide +kernel
theorem dX2_tallyValues_49 : decode cX2_tallyValues 49 = .ok (.aload_n 1, 1) := by decide +kernel
theorem dX2_tallyValues_50 : decode cX2_tallyValues 50 = .ok (.getfield 32, 3) := by decide +kernel
theorem dX2_tallyValues_53 : decode cX2_tallyValues 53 = .ok (.getfield 133, 3) := by decide +kernel
theorem dX2_tallyValues_56 : decode cX2_tallyValues 56 = .ok (.iload_n 2, 1) := by decide +kernel
theorem dX2_tallyValues_57 : decode cX2_tallyValues 57 = .ok (.invokevirtual 89, 3) := by decide +kernel
theorem dX2_tallyValues_60 : decode cX2_tallyValues 60 = .ok (.ifCond .ne 10, 3) := by decide +kernel
theorem dX2_tallyValues_63 : decode cX2_tallyValues 63 = .ok (.aload_n 0, 1) := by decide +kernel
theorem dX2_tallyValues_64 : decode cX2_tallyValues 64 = .ok (.getfield 26, 3) := by decide +kernel
theorem dX2_tallyValues_67 : decode cX2_tallyValues 67 = .ok (.goto 7, 3) := by decide +kernel
theorem dX2_tallyValues_70 : decode cX2_tallyValues 70 = .ok (.aload_n 0, 1) := by decide +kernel
theorem dX2_tallyValues_71 : decode cX2_tallyValues 71 = .ok (.getfield 29, 3) := by decide +kernel
theorem dX2_tallyValues_74 : decode cX2_tallyValues 74 = .ok (.astore 4, 2) := by decide +kernel
theorem dX2_tallyValues_76 : decode cX2_tallyValues 76 = .ok (.aload 4, 2) := by decide +kernel
theorem dX2_tallyValues_78 : decode cX2_tallyValues 78 = .ok (.iload_n 3, 1) := by decide +kernel
theorem dX2_tallyValues_79 : decode cX2_tallyValues 79 = .ok (.aload_n 1, 1) := by decide +kernel
theorem dX2_tallyValues_80 : decode cX2_tallyValues 80 = .ok (.getfield 32, 3) := by decide +kernel
theorem dX2_tallyValues_83 : decode cX2_tallyValues 83 = .ok (.getfield 92, 3) := by decide +kernel
theorem dX2_tallyValues_86 : decode cX2_tallyValues 86 = .ok (.iload_n 2, 1) := by decide +kernel
theorem dX2_tallyValues_87 : decode cX2_tallyValues 87 = .ok (.invokevirtual 89, 3) := by decide +kernel
theorem dX2_tallyValues_90 : decode cX2_tallyValues 90 = .ok (.invokevirtual 152, 3) := by decide +kernel
theorem dX2_tallyValues_93 : decode cX2_tallyValues 93 = .ok (.iinc 2 1, 3) := by decide +kernel
theorem dX2_tallyValues_96 : decode cX2_tallyValues 96 = .ok (.goto (-80), 3) := by decide +kernel
theorem dX2_tallyValues_99 : decode cX2_tallyValues 99 = .ok (.return_, 1) := by decide +kernel
theorem dX2_hundredthsOf_0 : decode cX2_hundredthsOf 0 = .ok (.aload_n 0, 1) := by decide +kernel
theorem dX2_hundredthsOf_1 : decode cX2_hundredthsOf 1 = .ok (.getfield 71, 3) := by decide +kernel
theorem dX2_hundredthsOf_4 : decode cX2_hundredthsOf 4 = .ok (.ifCond .ge 5, 3) := by decide +kernel
theorem dX2_hundredthsOf_7 : decode cX2_hundredthsOf 7 = .ok (.iconst 0, 1) := by decide +kernel
theorem dX2_hundredthsOf_8 : decode cX2_hundredthsOf 8 = .ok (.ireturn, 1) := by decide +kernel
theorem dX2_hundredthsOf_9 : decode cX2_hundredthsOf 9 = .ok (.iload_n 1, 1) := by decide +kernel
theorem dX2_hundredthsOf_10 : decode cX2_hundredthsOf 10 = .ok (.ifCond .le 15, 3) := by decide +kernel
theorem dX2_hundredthsOf_13 : decode cX2_hundredthsOf 13 = .ok (.aload_n 0, 1) := by decide +kernel
theorem dX2_hundredthsOf_14 : decode cX2_hundredthsOf 14 = .ok (.getfield 71, 3) := by decide +kernel
theorem dX2_hundredthsOf_17 : decode cX2_hundredthsOf 17 = .ok (.bipush 100, 2) := by decide +kernel
theorem dX2_hundredthsOf_19 : decode cX2_hundredthsOf 19 = .ok (.imul, 1) := by decide +kernel
theorem dX2_hundredthsOf_20 : decode cX2_hundredthsOf 20 = .ok (.iload_n 1, 1) := by decide +kernel
theorem dX2_hundredthsOf_21 : decode cX2_hundredthsOf 21 = .ok (.idiv, 1) := by decide +kernel
theorem dX2_hundredthsOf_22 : decode cX2_hundredthsOf 22 = .ok (.goto 5, 3) := by decide +kernel
theorem dX2_hundredthsOf_25 : decode cX2_hundredthsOf 25 = .ok (.bipush 100, 2) := by decide +kernel
theorem dX2_hundredthsOf_27 : decode cX2_hundredthsOf 27 = .ok (.ireturn, 1) := by decide +kernel
theorem dX3_init_0 : decode cX3_init 0 = .ok (.aload_n 0, 1) := by decide +kernel
theorem dX3_init_1 : decode cX3_init 1 = .ok (.invokespecial 3, 3) := by decide +kernel
theorem dX3_init_4 : decode cX3_init 4 = .ok (.aload_n 0, 1) := by decide +kernel
theorem dX3_init_5 : decode cX3_init 5 = .ok (.new 9, 3) := by decide +kernel
theorem dX3_init_8 : decode cX3_init 8 = .ok (.dup, 1) := by decide +kernel
theorem dX3_init_9 : decode cX3_init 9 = .ok (.iconst 3, 1) := by decide +kernel
theorem dX3_init_10 : decode cX3_init 10 = .ok (.invokespecial 11, 3) := by decide +kernel
theorem dX3_init_13 : decode cX3_init 13 = .ok (.putfield 14, 3) := by decide +kernel
theorem dX3_init_16 : decode cX3_init 16 = .ok (.aload_n 0, 1) := by decide +kernel
theorem dX3_init_17 : decode cX3_init 17 = .ok (.new 9, 3) := by decide +kernel
theorem dX3_init_20 : decode cX3_init 20 = .ok (.dup, 1) := by decide +kernel
theorem dX3_init_21 : decode cX3_init 21 = .ok (.sipush 150, 3) := by decide +kernel
theorem dX3_init_24 : decode cX3_init 24 = .ok (.invokespecial 11, 3) := by decide +kernel
theorem dX3_init_27 : decode cX3_init 27 = .ok (.putfield 20, 3) := by decide +kernel
theorem dX3_init_30 : decode cX3_init 30 = .ok (.aload_n 0, 1) := by decide +kernel
theorem dX3_init_31 : decode cX3_init 31 = .ok (.iconst (-1), 1) := by decide +kernel
theorem dX3_init_32 : decode cX3_init 32 = .ok (.putfield 23, 3) := by decide +kernel
theorem dX3_init_35 : decode cX3_init 35 = .ok (.return_, 1) := by decide +kernel
theorem dX3_faultOfByte_0 : decode cX3_faultOfByte 0 = .ok (.iload_n 1, 1) := by decide +kernel
theorem dX3_faultOfByte_1 : decode cX3_faultOfByte 1 = .ok (.iconst 0, 1) := by decide +kernel
theorem dX3_faultOfByte_2 : decode cX3_faultOfByte 2 = .ok (.bipush 127, 2) := by decide +kernel
theorem dX3_faultOfByte_4 : decode cX3_faultOfByte 4 = .ok (.invokestatic 27, 3) := by decide +kernel
theorem dX3_faultOfByte_7 : decode cX3_faultOfByte 7 = .ok (.ifCond .ne 5, 3) := by decide +kernel
theorem dX3_faultOfByte_10 : decode cX3_faultOfByte 10 = .ok (.iconst 2, 1) := by decide +kernel
theorem dX3_faultOfByte_11 : decode cX3_faultOfByte 11 = .ok (.ireturn, 1) := by decide +kernel
theorem dX3_faultOfByte_12 : decode cX3_faultOfByte 12 = .ok (.aload_n 0, 1) := by decide +kernel
theorem dX3_faultOfByte_13 : decode cX3_faultOfByte 13 = .ok (.getfield 31, 3) := by decide +kernel
theorem dX3_faultOfByte_16 : decode cX3_faultOfByte 16 = .ok (.sipush 150, 3) := by decide +kernel
theorem dX3_faultOfByte_19 : decode cX3_faultOfByte 19 = .ok (.if_icmp .lt 7, 3) := by decide +kernel
theorem dX3_faultOfByte_22 : decode cX3_faultOfByte 22 = .ok (.iconst 3, 1) := by decide +kernel
theorem dX3_faultOfByte_23 : decode cX3_faultOfByte 23 = .ok (.goto 4, 3) := by decide +kernel
theorem dX3_faultOfByte_26 : decode cX3_faultOfByte 26 = .ok (.iconst 0, 1) := by decide +kernel
theorem dX3_faultOfByte_27 : decode cX3_faultOfByte 27 = .ok (.ireturn, 1) := by decide +kernel
theorem dX3_append_0 : decode cX3_append 0 = .ok (.aload_n 0, 1) := by decide +kernel
theorem dX3_append_1 : decode cX3_append 1 = .ok (.getfield 20, 3) := by decide +kernel
theorem dX3_append_4 : decode cX3_append 4 = .ok (.aload_n 0, 1) := by decide +kernel
theorem dX3_append_5 : decode cX3_append 5 = .ok (.getfield 31, 3) := by decide +kernel
theorem dX3_append_8 : decode cX3_append 8 = .ok (.iload_n 1, 1) := by decide +kernel
theorem dX3_append_9 : decode cX3_append 9 = .ok (.invokevirtual 34, 3) := by decide +kernel
theorem dX3_append_12 : decode cX3_append 12 = .ok (.aload_n 0, 1) := by decide +kernel
theorem dX3_append_13 : decode cX3_append 13 = .ok (.dup, 1) := by decide +kernel
theorem dX3_append_14 : decode cX3_append 14 = .ok (.getfield 31, 3) := by decide +kernel
theorem dX3_append_17 : decode cX3_append 17 = .ok (.iconst 1, 1) := by decide +kernel
theorem dX3_append_18 : decode cX3_append 18 = .ok (.iadd, 1) := by decide +kernel
theorem dX3_append_19 : decode cX3_append 19 = .ok (.putfield 31, 3) := by decide +kernel
theorem dX3_append_22 : decode cX3_append 22 = .ok (.aload_n 0, 1) := by decide +kernel
theorem dX3_append_23 : decode cX3_append 23 = .ok (.getfield 31, 3) := by decide +kernel
theorem dX3_append_26 : decode cX3_append 26 = .ok (.ireturn, 1) := by decide +kernel
theorem dX3_empty_0 : decode cX3_empty 0 = .ok (.aload_n 0, 1) := by decide +kernel
theorem dX3_empty_1 : decode cX3_empty 1 = .ok (.getfield 31, 3) := by decide +kernel
theorem dX3_empty_4 : decode cX3_empty 4 = .ok (.istore_n 1, 1) := by decide +kernel
theorem dX3_empty_5 : decode cX3_empty 5 = .ok (.aload_n 0, 1) := by decide +kernel
theorem dX3_empty_6 : decode cX3_empty 6 = .ok (.iconst 0, 1) := by decide +kernel
theorem dX3_empty_7 : decode cX3_empty 7 = .ok (.putfield 31, 3) := by decide +kernel
theorem dX3_empty_10 : decode cX3_empty 10 = .ok (.iload_n 1, 1) := by decide +kernel
theorem dX3_empty_11 : decode cX3_empty 11 = .ok (.ireturn, 1) := by decide +kernel
theorem dX3_rewind_0 : decode cX3_rewind 0 = .ok (.aload_n 0, 1) := by decide +kernel
theorem dX3_rewind_1 : decode cX3_rewind 1 = .ok (.iconst 0, 1) := by decide +kernel
theorem dX3_rewind_2 : decode cX3_rewind 2 = .ok (.putfield 38, 3) := by decide +kernel
theorem dX3_rewind_5 : decode cX3_rewind 5 = .ok (.aload_n 0, 1) := by decide +kernel
theorem dX3_rewind_6 : decode cX3_rewind 6 = .ok (.iconst (-1), 1) := by decide +kernel
theorem dX3_rewind_7 : decode cX3_rewind 7 = .ok (.putfield 23, 3) := by decide +kernel
theorem dX3_rewind_10 : decode cX3_rewind 10 = .ok (.return_, 1) := by decide +kernel
theorem dX3_findFault_0 : decode cX3_findFault 0 = .ok (.aload_n 0, 1) := by decide +kernel
theorem dX3_findFault_1 : decode cX3_findFault 1 = .ok (.invokevirtual 41, 3) := by decide +kernel
theorem dX3_findFault_4 : decode cX3_findFault 4 = .ok (.iconst 0, 1) := by decide +kernel
theorem dX3_findFault_5 : decode cX3_findFault 5 = .ok (.istore_n 1, 1) := by decide +kernel
theorem dX3_findFault_6 : decode cX3_findFault 6 = .ok (.iload_n 1, 1) := by decide +kernel
theorem dX3_findFault_7 : decode cX3_findFault 7 = .ok (.sipush 150, 3) := by decide +kernel
theorem dX3_findFault_10 : decode cX3_findFault 10 = .ok (.if_icmp .ge 21, 3) := by decide +kernel
theorem dX3_findFault_13 : decode cX3_findFault 13 = .ok (.aload_n 0, 1) := by decide +kernel
theorem dX3_findFault_14 : decode cX3_findFault 14 = .ok (.invokevirtual 44, 3) := by decide +kernel
theorem dX3_findFault_17 : decode cX3_findFault 17 = .ok (.ifCond .ne 8, 3) := by decide +kernel
theorem dX3_findFault_20 : decode cX3_findFault 20 = .ok (.aload_n 0, 1) := by decide +kernel
theorem dX3_findFault_21 : decode cX3_findFault 21 = .ok (.getfield 23, 3) := by decide +kernel
theorem dX3_findFault_24 : decode cX3_findFault 24 = .ok (.ireturn, 1) := by decide +kernel
theorem dX3_findFault_25 : decode cX3_findFault 25 = .ok (.iinc 1 1, 3) := by decide +kernel
theorem dX3_findFault_28 : decode cX3_findFault 28 = .ok (.goto (-22), 3) := by decide +kernel
theorem dX3_findFault_31 : decode cX3_findFault 31 = .ok (.aload_n 0, 1) := by decide +kernel
theorem dX3_findFault_32 : decode cX3_findFault 32 = .ok (.getfield 23, 3) := by decide +kernel
theorem dX3_findFault_35 : decode cX3_findFault 35 = .ok (.ireturn, 1) := by decide +kernel
theorem dX3_readCommand_0 : decode cX3_readCommand 0 = .ok (.aload_n 0, 1) := by decide +kernel
theorem dX3_readCommand_1 : decode cX3_readCommand 1 = .ok (.invokevirtual 48, 3) := by decide +kernel
theorem dX3_readCommand_4 : decode cX3_readCommand 4 = .ok (.aload_n 0, 1) := by decide +kernel
theorem dX3_readCommand_5 : decode cX3_readCommand 5 = .ok (.getfield 38, 3) := by decide +kernel
theorem dX3_readCommand_8 : decode cX3_readCommand 8 = .ok (.aload_n 0, 1) := by decide +kernel
theorem dX3_readCommand_9 : decode cX3_readCommand 9 = .ok (.getfield 31, 3) := by decide +kernel
theorem dX3_readCommand_12 : decode cX3_readCommand 12 = .ok (.if_icmp .eq 10, 3) := by decide +kernel
theorem dX3_readCommand_15 : decode cX3_readCommand 15 = .ok (.aload_n 0, 1) := by decide +kernel
theorem dX3_readCommand_16 : decode cX3_readCommand 16 = .ok (.invokevirtual 51, 3) := by decide +kernel
theorem dX3_readCommand_19 : decode cX3_readCommand 19 = .ok (.ifCond .ne 5, 3) := by decide +kernel
theorem dX3_readCommand_22 : decode cX3_readCommand 22 = .ok (.iconst 0, 1) := by decide +kernel
theorem dX3_readCommand_23 : decode cX3_readCommand 23 = .ok (.ireturn, 1) := by decide +kernel
theorem dX3_readCommand_24 : decode cX3_readCommand 24 = .ok (.aload_n 0, 1) := by decide +kernel
theorem dX3_readCommand_25 : decode cX3_readCommand 25 = .ok (.getfield 54, 3) := by decide +kernel
theorem dX3_readCommand_28 : decode cX3_readCommand 28 = .ok (.ifnonnull 7, 3) := by decide +kernel
theorem dX3_readCommand_31 : decode cX3_readCommand 31 = .ok (.iconst 0, 1) := by decide +kernel
theorem dX3_readCommand_32 : decode cX3_readCommand 32 = .ok (.goto 10, 3) := by decide +kernel
theorem dX3_readCommand_35 : decode cX3_readCommand 35 = .ok (.aload_n 0, 1) := by decide +kernel
theorem dX3_readCommand_36 : decode cX3_readCommand 36 = .ok (.getfield 54, 3) := by decide +kernel
theorem dX3_readCommand_39 : decode cX3_readCommand 39 = .ok (.getfield 58, 3) := by decide +kernel
theorem dX3_readCommand_42 : decode cX3_readCommand 42 = .ok (.istore_n 1, 1) := by decide +kernel
theorem dX3_readCommand_43 : decode cX3_readCommand 43 = .ok (.iconst 0, 1) := by decide +kernel
theorem dX3_readCommand_44 : decode cX3_readCommand 44 = .ok (.istore_n 2, 1) := by decide +kernel
theorem dX3_readCommand_45 : decode cX3_readCommand 45 = .ok (.iload_n 2, 1) := by decide +kernel
theorem dX3_readCommand_46 : decode cX3_readCommand 46 = .ok (.iload_n 1, 1) := by decide +kernel
theorem dX3_readCommand_47 : decode cX3_readCommand 47 = .ok (.if_icmp .ge 19, 3) := by decide +kernel
theorem dX3_readCommand_50 : decode cX3_readCommand 50 = .ok (.aload_n 0, 1) := by decide +kernel
theorem dX3_readCommand_51 : decode cX3_readCommand 51 = .ok (.iload_n 2, 1) := by decide +kernel
theorem dX3_readCommand_52 : decode cX3_readCommand 52 = .ok (.invokevirtual 62, 3) := by decide +kernel
theorem dX3_readCommand_55 : decode cX3_readCommand 55 = .ok (.ifCond .ne 5, 3) := by decide +kernel
theorem dX3_readCommand_58 : decode cX3_readCommand 58 = .ok (.iconst 0, 1) := by decide +kernel
theorem dX3_readCommand_59 : decode cX3_readCommand 59 = .ok (.ireturn, 1) := by decide +kernel
theorem dX3_readCommand_60 : decode cX3_readCommand 60 = .ok (.iinc 2 1, 3) := by decide +kernel
theorem dX3_readCommand_63 : decode cX3_readCommand 63 = .ok (.goto (-18), 3) := by decide +kernel
theorem dX3_readCommand_66 : decode cX3_readCommand 66 = .ok (.aload_n 0, 1) := by decide +kernel
theorem dX3_readCommand_67 : decode cX3_readCommand 67 = .ok (.invokevirtual 48, 3) := by decide +kernel
theorem dX3_readCommand_70 : decode cX3_readCommand 70 = .ok (.aload_n 0, 1) := by decide +kernel
theorem dX3_readCommand_71 : decode cX3_readCommand 71 = .ok (.bipush 59, 2) := by decide +kernel
theorem dX3_readCommand_73 : decode cX3_readCommand 73 = .ok (.invokevirtual 66, 3) := by decide +kernel
theorem dX3_readCommand_76 : decode cX3_readCommand 76 = .ok (.ireturn, 1) := by decide +kernel
theorem dX3_byteAt_0 : decode cX3_byteAt 0 = .ok (.iload_n 1, 1) := by decide +kernel
theorem dX3_byteAt_1 : decode cX3_byteAt 1 = .ok (.aload_n 0, 1) := by decide +kernel
theorem dX3_byteAt_2 : decode cX3_byteAt 2 = .ok (.getfield 31, 3) := by decide +kernel
theorem dX3_byteAt_5 : decode cX3_byteAt 5 = .ok (.if_icmp .ge 14, 3) := by decide +kernel
theorem dX3_byteAt_8 : decode cX3_byteAt 8 = .ok (.aload_n 0, 1) := by decide +kernel
theorem dX3_byteAt_9 : decode cX3_byteAt 9 = .ok (.getfield 20, 3) := by decide +kernel
theorem dX3_byteAt_12 : decode cX3_byteAt 12 = .ok (.iload_n 1, 1) := by decide +kernel
theorem dX3_byteAt_13 : decode cX3_byteAt 13 = .ok (.invokevirtual 69, 3) := by decide +kernel
theorem dX3_byteAt_16 : decode cX3_byteAt 16 = .ok (.goto 4, 3) := by decide +kernel
theorem dX3_byteAt_19 : decode cX3_byteAt 19 = .ok (.iconst (-1), 1) := by decide +kernel
theorem dX3_byteAt_20 : decode cX3_byteAt 20 = .ok (.ireturn, 1) := by decide +kernel
theorem dX3_skipSpaces_0 : decode cX3_skipSpaces 0 = .ok (.aload_n 0, 1) := by decide +kernel
theorem dX3_skipSpaces_1 : decode cX3_skipSpaces 1 = .ok (.getfield 38, 3) := by decide +kernel
theorem dX3_skipSpaces_4 : decode cX3_skipSpaces 4 = .ok (.aload_n 0, 1) := by decide +kernel
theorem dX3_skipSpaces_5 : decode cX3_skipSpaces 5 = .ok (.getfield 31, 3) := by decide +kernel
theorem dX3_skipSpaces_8 : decode cX3_skipSpaces 8 = .ok (.if_icmp .ge 29, 3) := by decide +kernel
theorem dX3_skipSpaces_11 : decode cX3_skipSpaces 11 = .ok (.aload_n 0, 1) := by decide +kernel
theorem dX3_skipSpaces_12 : decode cX3_skipSpaces 12 = .ok (.aload_n 0, 1) := by decide +kernel
theorem dX3_skipSpaces_13 : decode cX3_skipSpaces 13 = .ok (.getfield 38, 3) := by decide +kernel
theorem dX3_skipSpaces_16 : decode cX3_skipSpaces 16 = .ok (.invokevirtual 73, 3) := by decide +kernel
theorem dX3_skipSpaces_19 : decode cX3_skipSpaces 19 = .ok (.bipush 32, 2) := by decide +kernel
theorem dX3_skipSpaces_21 : decode cX3_skipSpaces 21 = .ok (.if_icmp .ne 16, 3) := by decide +kernel
theorem dX3_skipSpaces_24 : decode cX3_skipSpaces 24 = .ok (.aload_n 0, 1) := by decide +kernel
theorem dX3_skipSpaces_25 : decode cX3_skipSpaces 25 = .ok (.dup, 1) := by decide +kernel
theorem dX3_skipSpaces_26 : decode cX3_skipSpaces 26 = .ok (.getfield 38, 3) := by decide +kernel
theorem dX3_skipSpaces_29 : decode cX3_skipSpaces 29 = .ok (.iconst 1, 1) := by decide +kernel
theorem dX3_skipSpaces_30 : decode cX3_skipSpaces 30 = .ok (.iadd, 1) := by decide +kernel
theorem dX3_skipSpaces_31 : decode cX3_skipSpaces 31 = .ok (.putfield 38, 3) := by decide +kernel
theorem dX3_skipSpaces_34 : decode cX3_skipSpaces 34 = .ok (.goto (-34), 3) := by decide +kernel
theorem dX3_skipSpaces_37 : decode cX3_skipSpaces 37 = .ok (.return_, 1) := by decide +kernel
theorem dX3_readByte_0 : decode cX3_readByte 0 = .ok (.aload_n 0, 1) := by decide +kernel
theorem dX3_readByte_1 : decode cX3_readByte 1 = .ok (.aload_n 0, 1) := by decide +kernel
theorem dX3_readByte_2 : decode cX3_readByte 2 = .ok (.getfield 38, 3) := by decide +kernel
theorem dX3_readByte_5 : decode cX3_readByte 5 = .ok (.invokevirtual 73, 3) := by decide +kernel
theorem dX3_readByte_8 : decode cX3_readByte 8 = .ok (.iload_n 1, 1) := by decide +kernel
theorem dX3_readByte_9 : decode cX3_readByte 9 = .ok (.if_icmp .eq 13, 3) := by decide +kernel
theorem dX3_readByte_12 : decode cX3_readByte 12 = .ok (.aload_n 0, 1) := by decide +kernel
theorem dX3_readByte_13 : decode cX3_readByte 13 = .ok (.aload_n 0, 1) := by decide +kernel
theorem dX3_readByte_14 : decode cX3_readByte 14 = .ok (.getfield 38, 3) := by decide +kernel
theorem dX3_readByte_17 : decode cX3_readByte 17 = .ok (.putfield 23, 3) := by decide +kernel
theorem dX3_readByte_20 : decode cX3_readByte 20 = .ok (.iconst 0, 1) := by decide +kernel
theorem dX3_readByte_21 : decode cX3_readByte 21 = .ok (.ireturn, 1) := by decide +kernel
theorem dX3_readByte_22 : decode cX3_readByte 22 = .ok (.aload_n 0, 1) := by decide +kernel
theorem dX3_readByte_23 : decode cX3_readByte 23 = .ok (.dup, 1) := by decide +kernel
theorem dX3_readByte_24 : decode cX3_readByte 24 = .ok (.getfield 38, 3) := by decide +kernel
theorem dX3_readByte_27 : decode cX3_readByte 27 = .ok (.iconst 1, 1) := by decide +kernel
theorem dX3_readByte_28 : decode cX3_readByte 28 = .ok (.iadd, 1) := by decide +kernel
theorem dX3_readByte_29 : decode cX3_readByte 29 = .ok (.putfield 38, 3) := by decide +kernel
theorem dX3_readByte_32 : decode cX3_readByte 32 = .ok (.iconst 1, 1) := by decide +kernel
theorem dX3_readByte_33 : decode cX3_readByte 33 = .ok (.ireturn, 1) := by decide +kernel
theorem dX3_readWord_0 : decode cX3_readWord 0 = .ok (.aload_n 0, 1) := by decide +kernel
theorem dX3_readWord_1 : decode cX3_readWord 1 = .ok (.getfield 38, 3) := by decide +kernel
theorem dX3_readWord_4 : decode cX3_readWord 4 = .ok (.istore_n 1, 1) := by decide +kernel
theorem dX3_readWord_5 : decode cX3_readWord 5 = .ok (.aload_n 0, 1) := by decide +kernel
theorem dX3_readWord_6 : decode cX3_readWord 6 = .ok (.getfield 38, 3) := by decide +kernel
theorem dX3_readWord_9 : decode cX3_readWord 9 = .ok (.aload_n 0, 1) := by decide +kernel
theorem dX3_readWord_10 : decode cX3_readWord 10 = .ok (.getfield 31, 3) := by decide +kernel
theorem dX3_readWord_13 : decode cX3_readWord 13 = .ok (.if_icmp .ge 34, 3) := by decide +kernel
theorem dX3_readWord_16 : decode cX3_readWord 16 = .ok (.aload_n 0, 1) := by decide +kernel
theorem dX3_readWord_17 : decode cX3_readWord 17 = .ok (.aload_n 0, 1) := by decide +kernel
theorem dX3_readWord_18 : decode cX3_readWord 18 = .ok (.getfield 38, 3) := by decide +kernel
theorem dX3_readWord_21 : decode cX3_readWord 21 = .ok (.invokevirtual 73, 3) := by decide +kernel
theorem dX3_readWord_24 : decode cX3_readWord 24 = .ok (.bipush 97, 2) := by decide +kernel
theorem dX3_readWord_26 : decode cX3_readWord 26 = .ok (.bipush 122, 2) := by decide +kernel
theorem dX3_readWord_28 : decode cX3_readWord 28 = .ok (.invokestatic 27, 3) := by decide +kernel
theorem dX3_readWord_31 : decode cX3_readWord 31 = .ok (.ifCond .eq 16, 3) := by decide +kernel
theorem dX3_readWord_34 : decode cX3_readWord 34 = .ok (.aload_n 0, 1) := by decide +kernel
theorem dX3_readWord_35 : decode cX3_readWord 35 = .ok (.dup, 1) := by decide +kernel
theorem dX3_readWord_36 : decode cX3_readWord 36 = .ok (.getfield 38, 3) := by decide +kernel
theorem dX3_readWord_39 : decode cX3_readWord 39 = .ok (.iconst 1, 1) := by decide +kernel
theorem dX3_readWord_40 : decode cX3_readWord 40 = .ok (.iadd, 1) := by decide +kernel
theorem dX3_readWord_41 : decode cX3_readWord 41 = .ok (.putfield 38, 3) := by decide +kernel
theorem dX3_readWord_44 : decode cX3_readWord 44 = .ok (.goto (-39), 3) := by decide +kernel
theorem dX3_readWord_47 : decode cX3_readWord 47 = .ok (.aload_n 0, 1) := by decide +kernel
theorem dX3_readWord_48 : decode cX3_readWord 48 = .ok (.aload_n 0, 1) := by decide +kernel
theorem dX3_readWord_49 : decode cX3_readWord 49 = .ok (.getfield 20, 3) := by decide +kernel
theorem dX3_readWord_52 : decode cX3_readWord 52 = .ok (.iload_n 1, 1) := by decide +kernel
theorem dX3_readWord_53 : decode cX3_readWord 53 = .ok (.aload_n 0, 1) := by decide +kernel
theorem dX3_readWord_54 : decode cX3_readWord 54 = .ok (.getfield 38, 3) := by decide +kernel
theorem dX3_readWord_57 : decode cX3_readWord 57 = .ok (.iload_n 1, 1) := by decide +kernel
theorem dX3_readWord_58 : decode cX3_readWord 58 = .ok (.isub, 1) := by decide +kernel
theorem dX3_readWord_59 : decode cX3_readWord 59 = .ok (.invokestatic 76, 3) := by decide +kernel
theorem dX3_readWord_62 : decode cX3_readWord 62 = .ok (.putfield 54, 3) := by decide +kernel
theorem dX3_readWord_65 : decode cX3_readWord 65 = .ok (.aload_n 0, 1) := by decide +kernel
theorem dX3_readWord_66 : decode cX3_readWord 66 = .ok (.getfield 54, 3) := by decide +kernel
theorem dX3_readWord_69 : decode cX3_readWord 69 = .ok (.ifnonnull 8, 3) := by decide +kernel
theorem dX3_readWord_72 : decode cX3_readWord 72 = .ok (.aload_n 0, 1) := by decide +kernel
theorem dX3_readWord_73 : decode cX3_readWord 73 = .ok (.iload_n 1, 1) := by decide +kernel
theorem dX3_readWord_74 : decode cX3_readWord 74 = .ok (.putfield 23, 3) := by decide +kernel
theorem dX3_readWord_77 : decode cX3_readWord 77 = .ok (.aload_n 0, 1) := by decide +kernel
theorem dX3_readWord_78 : decode cX3_readWord 78 = .ok (.getfield 54, 3) := by decide +kernel
theorem dX3_readWord_81 : decode cX3_readWord 81 = .ok (.ifnull 7, 3) := by decide +kernel
theorem dX3_readWord_84 : decode cX3_readWord 84 = .ok (.iconst 1, 1) := by decide +kernel
theorem dX3_readWord_85 : decode cX3_readWord 85 = .ok (.goto 4, 3) := by decide +kernel
theorem dX3_readWord_88 : decode cX3_readWord 88 = .ok (.iconst 0, 1) := by decide +kernel
theorem dX3_readWord_89 : decode cX3_readWord 89 = .ok (.ireturn, 1) := by decide +kernel
theorem dX3_readNumber_0 : decode cX3_readNumber 0 = .ok (.aload_n 0, 1) := by decide +kernel
theorem dX3_readNumber_1 : decode cX3_readNumber 1 = .ok (.bipush 32, 2) := by decide +kernel
theorem dX3_readNumber_3 : decode cX3_readNumber 3 = .ok (.invokevirtual 66, 3) := by decide +kernel
theorem dX3_readNumber_6 : decode cX3_readNumber 6 = .ok (.ifCond .ne 5, 3) := by decide +kernel
theorem dX3_readNumber_9 : decode cX3_readNumber 9 = .ok (.iconst 0, 1) := by decide +kernel
theorem dX3_readNumber_10 : decode cX3_readNumber 10 = .ok (.ireturn, 1) := by decide +kernel
theorem dX3_readNumber_11 : decode cX3_readNumber 11 = .ok (.aload_n 0, 1) := by decide +kernel
theorem dX3_readNumber_12 : decode cX3_readNumber 12 = .ok (.invokevirtual 48, 3) := by decide +kernel
theorem dX3_readNumber_15 : decode cX3_readNumber 15 = .ok (.iconst 0, 1) := by decide +kernel
theorem dX3_readNumber_16 : decode cX3_readNumber 16 = .ok (.istore_n 2, 1) := by decide +kernel
theorem dX3_readNumber_17 : decode cX3_readNumber 17 = .ok (.iconst 0, 1) := by decide +kernel
theorem dX3_readNumber_18 : decode cX3_readNumber 18 = .ok (.istore_n 3, 1) := by decide +kernel
theorem dX3_readNumber_19 : decode cX3_readNumber 19 = .ok (.iload_n 3, 1) := by decide +kernel
theorem dX3_readNumber_20 : decode cX3_readNumber 20 = .ok (.iconst 3, 1) := by decide +kernel
theorem dX3_readNumber_21 : decode cX3_readNumber 21 = .ok (.if_icmp .ge 54, 3) := by decide +kernel
theorem dX3_readNumber_24 : decode cX3_readNumber 24 = .ok (.aload_n 0, 1) := by decide +kernel
theorem dX3_readNumber_25 : decode cX3_readNumber 25 = .ok (.aload_n 0, 1) := by decide +kernel
theorem dX3_readNumber_26 : decode cX3_readNumber 26 = .ok (.getfield 38, 3) := by decide +kernel
theorem dX3_readNumber_29 : decode cX3_readNumber 29 = .ok (.invokevirtual 73, 3) := by decide +kernel
theorem dX3_readNumber_32 : decode cX3_readNumber 32 = .ok (.bipush 48, 2) := by decide +kernel
theorem dX3_readNumber_34 : decode cX3_readNumber 34 = .ok (.bipush 57, 2) := by decide +kernel
theorem dX3_readNumber_36 : decode cX3_readNumber 36 = .ok (.invokestatic 27, 3) := by decide +kernel
theorem dX3_readNumber_39 : decode cX3_readNumber 39 = .ok (.ifCond .eq 36, 3) := by decide +kernel
theorem dX3_readNumber_42 : decode cX3_readNumber 42 = .ok (.iload_n 2, 1) := by decide +kernel
theorem dX3_readNumber_43 : decode cX3_readNumber 43 = .ok (.bipush 10, 2) := by decide +kernel
theorem dX3_readNumber_45 : decode cX3_readNumber 45 = .ok (.imul, 1) := by decide +kernel
theorem dX3_readNumber_46 : decode cX3_readNumber 46 = .ok (.aload_n 0, 1) := by decide +kernel
theorem dX3_readNumber_47 : decode cX3_readNumber 47 = .ok (.aload_n 0, 1) := by decide +kernel
theorem dX3_readNumber_48 : decode cX3_readNumber 48 = .ok (.getfield 38, 3) := by decide +kernel
theorem dX3_readNumber_51 : decode cX3_readNumber 51 = .ok (.invokevirtual 73, 3) := by decide +kernel
theorem dX3_readNumber_54 : decode cX3_readNumber 54 = .ok (.iadd, 1) := by decide +kernel
theorem dX3_readNumber_55 : decode cX3_readNumber 55 = .ok (.bipush 48, 2) := by decide +kernel
theorem dX3_readNumber_57 : decode cX3_readNumber 57 = .ok (.isub, 1) := by decide +kernel
theorem dX3_readNumber_58 : decode cX3_readNumber 58 = .ok (.istore_n 2, 1) := by decide +kernel
theorem dX3_readNumber_59 : decode cX3_readNumber 59 = .ok (.iinc 3 1, 3) := by decide +kernel
theorem dX3_readNumber_62 : decode cX3_readNumber 62 = .ok (.aload_n 0, 1) := by decide +kernel
theorem dX3_readNumber_63 : decode cX3_readNumber 63 = .ok (.dup, 1) := by decide +kernel
theorem dX3_readNumber_64 : decode cX3_readNumber 64 = .ok (.getfield 38, 3) := by decide +kernel
theorem dX3_readNumber_67 : decode cX3_readNumber 67 = .ok (.iconst 1, 1) := by decide +kernel
theorem dX3_readNumber_68 : decode cX3_readNumber 68 = .ok (.iadd, 1) := by decide +kernel
theorem dX3_readNumber_69 : decode cX3_readNumber 69 = .ok (.putfield 38, 3) := by decide +kernel
theorem dX3_readNumber_72 : decode cX3_readNumber 72 = .ok (.goto (-53), 3) := by decide +kernel
theorem dX3_readNumber_75 : decode cX3_readNumber 75 = .ok (.aload_n 0, 1) := by decide +kernel
theorem dX3_readNumber_76 : decode cX3_readNumber 76 = .ok (.getfield 14, 3) := by decide +kernel
theorem dX3_readNumber_79 : decode cX3_readNumber 79 = .ok (.iload_n 1, 1) := by decide +kernel
theorem dX3_readNumber_80 : decode cX3_readNumber 80 = .ok (.iload_n 2, 1) := by decide +kernel
theorem dX3_readNumber_81 : decode cX3_readNumber 81 = .ok (.invokevirtual 34, 3) := by decide +kernel
theorem dX3_readNumber_84 : decode cX3_readNumber 84 = .ok (.iload_n 3, 1) := by decide +kernel
theorem dX3_readNumber_85 : decode cX3_readNumber 85 = .ok (.ifCond .ne 11, 3) := by decide +kernel
theorem dX3_readNumber_88 : decode cX3_readNumber 88 = .ok (.aload_n 0, 1) := by decide +kernel
theorem dX3_readNumber_89 : decode cX3_readNumber 89 = .ok (.aload_n 0, 1) := by decide +kernel
theorem dX3_readNumber_90 : decode cX3_readNumber 90 = .ok (.getfield 38, 3) := by decide +kernel
theorem dX3_readNumber_93 : decode cX3_readNumber 93 = .ok (.putfield 23, 3) := by decide +kernel
theorem dX3_readNumber_96 : decode cX3_readNumber 96 = .ok (.iload_n 3, 1) := by decide +kernel
theorem dX3_readNumber_97 : decode cX3_readNumber 97 = .ok (.ifCond .le 7, 3) := by decide +kernel
theorem dX3_readNumber_100 : decode cX3_readNumber 100 = .ok (.iconst 1, 1) := by decide +kernel
theorem dX3_readNumber_101 : decode cX3_readNumber 101 = .ok (.goto 4, 3) := by decide +kernel
theorem dX3_readNumber_104 : decode cX3_readNumber 104 = .ok (.iconst 0, 1) := by decide +kernel
theorem dX3_readNumber_105 : decode cX3_readNumber 105 = .ok (.ireturn, 1) := by decide +kernel
theorem dX4_init_0 : decode cX4_init 0 = .ok (.aload_n 0, 1) := by decide +kernel
theorem dX4_init_1 : decode cX4_init 1 = .ok (.invokespecial 3, 3) := by decide +kernel
theorem dX4_init_4 : decode cX4_init 4 = .ok (.aload_n 0, 1) := by decide +kernel
theorem dX4_init_5 : decode cX4_init 5 = .ok (.new 9, 3) := by decide +kernel
theorem dX4_init_8 : decode cX4_init 8 = .ok (.dup, 1) := by decide +kernel
theorem dX4_init_9 : decode cX4_init 9 = .ok (.bipush 20, 2) := by decide +kernel
theorem dX4_init_11 : decode cX4_init 11 = .ok (.invokespecial 11, 3) := by decide +kernel
theorem dX4_init_14 : decode cX4_init 14 = .ok (.putfield 14, 3) := by decide +kernel
theorem dX4_init_17 : decode cX4_init 17 = .ok (.aload_n 0, 1) := by decide +kernel
theorem dX4_init_18 : decode cX4_init 18 = .ok (.new 9, 3) := by decide +kernel
theorem dX4_init_21 : decode cX4_init 21 = .ok (.dup, 1) := by decide +kernel
theorem dX4_init_22 : decode cX4_init 22 = .ok (.bipush 20, 2) := by decide +kernel
theorem dX4_init_24 : decode cX4_init 24 = .ok (.invokespecial 11, 3) := by decide +kernel
theorem dX4_init_27 : decode cX4_init 27 = .ok (.putfield 20, 3) := by decide +kernel
theorem dX4_init_30 : decode cX4_init 30 = .ok (.aload_n 0, 1) := by decide +kernel
theorem dX4_init_31 : decode cX4_init 31 = .ok (.new 9, 3) := by decide +kernel
theorem dX4_init_34 : decode cX4_init 34 = .ok (.dup, 1) := by decide +kernel
theorem dX4_init_35 : decode cX4_init 35 = .ok (.bipush 20, 2) := by decide +kernel
theorem dX4_init_37 : decode cX4_init 37 = .ok (.invokespecial 11, 3) := by decide +kernel
theorem dX4_init_40 : decode cX4_init 40 = .ok (.putfield 23, 3) := by decide +kernel
theorem dX4_init_43 : decode cX4_init 43 = .ok (.aload_n 0, 1) := by decide +kernel
theorem dX4_init_44 : decode cX4_init 44 = .ok (.new 9, 3) := by decide +kernel
theorem dX4_init_47 : decode cX4_init 47 = .ok (.dup, 1) := by decide +kernel
theorem dX4_init_48 : decode cX4_init 48 = .ok (.bipush 20, 2) := by decide +kernel
theorem dX4_init_50 : decode cX4_init 50 = .ok (.invokespecial 11, 3) := by decide +kernel
theorem dX4_init_53 : decode cX4_init 53 = .ok (.putfield 26, 3) := by decide +kernel
theorem dX4_init_56 : decode cX4_init 56 = .ok (.aload_n 0, 1) := by decide +kernel
theorem dX4_init_57 : decode cX4_init 57 = .ok (.new 9, 3) := by decide +kernel
theorem dX4_init_60 : decode cX4_init 60 = .ok (.dup, 1) := by decide +kernel
theorem dX4_init_61 : decode cX4_init 61 = .ok (.bipush 20, 2) := by decide +kernel
theorem dX4_init_63 : decode cX4_init 63 = .ok (.invokespecial 11, 3) := by decide +kernel
theorem dX4_init_66 : decode cX4_init 66 = .ok (.putfield 29, 3) := by decide +kernel
theorem dX4_init_69 : decode cX4_init 69 = .ok (.aload_n 0, 1) := by decide +kernel
theorem dX4_init_70 : decode cX4_init 70 = .ok (.new 9, 3) := by decide +kernel
theorem dX4_init_73 : decode cX4_init 73 = .ok (.dup, 1) := by decide +kernel
theorem dX4_init_74 : decode cX4_init 74 = .ok (.bipush 20, 2) := by decide +kernel
theorem dX4_init_76 : decode cX4_init 76 = .ok (.invokespecial 11, 3) := by decide +kernel
theorem dX4_init_79 : decode cX4_init 79 = .ok (.putfield 32, 3) := by decide +kernel
theorem dX4_init_82 : decode cX4_init 82 = .ok (.return_, 1) := by decide +kernel
theorem dX4_isFull_0 : decode cX4_isFull 0 = .ok (.aload_n 0, 1) := by decide +kernel
theorem dX4_isFull_1 : decode cX4_isFull 1 = .ok (.getfield 35, 3) := by decide +kernel
theorem dX4_isFull_4 : decode cX4_isFull 4 = .ok (.bipush 20, 2) := by decide +kernel
theorem dX4_isFull_6 : decode cX4_isFull 6 = .ok (.if_icmp .lt 7, 3) := by decide +kernel
theorem dX4_isFull_9 : decode cX4_isFull 9 = .ok (.iconst 1, 1) := by decide +kernel
theorem dX4_isFull_10 : decode cX4_isFull 10 = .ok (.goto 4, 3) := by decide +kernel
theorem dX4_isFull_13 : decode cX4_isFull 13 = .ok (.iconst 0, 1) := by decide +kernel
theorem dX4_isFull_14 : decode cX4_isFull 14 = .ok (.ireturn, 1) := by decide +kernel
theorem dX4_indexOf_0 : decode cX4_indexOf 0 = .ok (.iconst 0, 1) := by decide +kernel
theorem dX4_indexOf_1 : decode cX4_indexOf 1 = .ok (.istore_n 2, 1) := by decide +kernel
theorem dX4_indexOf_2 : decode cX4_indexOf 2 = .ok (.iload_n 2, 1) := by decide +kernel
theorem dX4_indexOf_3 : decode cX4_indexOf 3 = .ok (.aload_n 0, 1) := by decide +kernel
theorem dX4_indexOf_4 : decode cX4_indexOf 4 = .ok (.getfield 35, 3) := by decide +kernel
theorem dX4_indexOf_7 : decode cX4_indexOf 7 = .ok (.if_icmp .ge 23, 3) := by decide +kernel
theorem dX4_indexOf_10 : decode cX4_indexOf 10 = .ok (.aload_n 0, 1) := by decide +kernel
theorem dX4_indexOf_11 : decode cX4_indexOf 11 = .ok (.getfield 14, 3) := by decide +kernel
theorem dX4_indexOf_14 : decode cX4_indexOf 14 = .ok (.iload_n 2, 1) := by decide +kernel
theorem dX4_indexOf_15 : decode cX4_indexOf 15 = .ok (.invokevirtual 39, 3) := by decide +kernel
theorem dX4_indexOf_18 : decode cX4_indexOf 18 = .ok (.iload_n 1, 1) := by decide +kernel
theorem dX4_indexOf_19 : decode cX4_indexOf 19 = .ok (.if_icmp .ne 5, 3) := by decide +kernel
theorem dX4_indexOf_22 : decode cX4_indexOf 22 = .ok (.iload_n 2, 1) := by decide +kernel
theorem dX4_indexOf_23 : decode cX4_indexOf 23 = .ok (.ireturn, 1) := by decide +kernel
theorem dX4_indexOf_24 : decode cX4_indexOf 24 = .ok (.iinc 2 1, 3) := by decide +kernel
theorem dX4_indexOf_27 : decode cX4_indexOf 27 = .ok (.goto (-25), 3) := by decide +kernel
theorem dX4_indexOf_30 : decode cX4_indexOf 30 = .ok (.iconst (-1), 1) := by decide +kernel
theorem dX4_indexOf_31 : decode cX4_indexOf 31 = .ok (.ireturn, 1) := by decide +kernel
theorem dX4_faultOfNumber_0 : decode cX4_faultOfNumber 0 = .ok (.aload_n 0, 1) := by decide +kernel
theorem dX4_faultOfNumber_1 : decode cX4_faultOfNumber 1 = .ok (.iload_n 1, 1) := by decide +kernel
theorem dX4_faultOfNumber_2 : decode cX4_faultOfNumber 2 = .ok (.invokevirtual 43, 3) := by decide +kernel
theorem dX4_faultOfNumber_5 : decode cX4_faultOfNumber 5 = .ok (.ifCond .lt 7, 3) := by decide +kernel
theorem dX4_faultOfNumber_8 : decode cX4_faultOfNumber 8 = .ok (.iconst 0, 1) := by decide +kernel
theorem dX4_faultOfNumber_9 : decode cX4_faultOfNumber 9 = .ok (.goto 4, 3) := by decide +kernel
theorem dX4_faultOfNumber_12 : decode cX4_faultOfNumber 12 = .ok (.iconst 1, 1) := by decide +kernel
theorem dX4_faultOfNumber_13 : decode cX4_faultOfNumber 13 = .ok (.ireturn, 1) := by decide +kernel
theorem dX4_append_0 : decode cX4_append 0 = .ok (.aload_n 0, 1) := by decide +kernel
theorem dX4_append_1 : decode cX4_append 1 = .ok (.getfield 14, 3) := by decide +kernel
theorem dX4_append_4 : decode cX4_append 4 = .ok (.aload_n 0, 1) := by decide +kernel
theorem dX4_append_5 : decode cX4_append 5 = .ok (.getfield 35, 3) := by decide +kernel
theorem dX4_append_8 : decode cX4_append 8 = .ok (.iload_n 1, 1) := by decide +kernel
theorem dX4_append_9 : decode cX4_append 9 = .ok (.invokevirtual 46, 3) := by decide +kernel
theorem dX4_append_12 : decode cX4_append 12 = .ok (.aload_n 0, 1) := by decide +kernel
theorem dX4_append_13 : decode cX4_append 13 = .ok (.getfield 20, 3) := by decide +kernel
theorem dX4_append_16 : decode cX4_append 16 = .ok (.aload_n 0, 1) := by decide +kernel
theorem dX4_append_17 : decode cX4_append 17 = .ok (.getfield 35, 3) := by decide +kernel
theorem dX4_append_20 : decode cX4_append 20 = .ok (.iload_n 2, 1) := by decide +kernel
theorem dX4_append_21 : decode cX4_append 21 = .ok (.invokevirtual 46, 3) := by decide +kernel
theorem dX4_append_24 : decode cX4_append 24 = .ok (.aload_n 0, 1) := by decide +kernel
theorem dX4_append_25 : decode cX4_append 25 = .ok (.getfield 23, 3) := by decide +kernel
theorem dX4_append_28 : decode cX4_append 28 = .ok (.aload_n 0, 1) := by decide +kernel
theorem dX4_append_29 : decode cX4_append 29 = .ok (.getfield 35, 3) := by decide +kernel
theorem dX4_append_32 : decode cX4_append 32 = .ok (.iload_n 3, 1) := by decide +kernel
theorem dX4_append_33 : decode cX4_append 33 = .ok (.invokevirtual 46, 3) := by decide +kernel
theorem dX4_append_36 : decode cX4_append 36 = .ok (.aload_n 0, 1) := by decide +kernel
theorem dX4_append_37 : decode cX4_append 37 = .ok (.getfield 26, 3) := by decide +kernel
theorem dX4_append_40 : decode cX4_append 40 = .ok (.aload_n 0, 1) := by decide +kernel
theorem dX4_append_41 : decode cX4_append 41 = .ok (.getfield 35, 3) := by decide +kernel
theorem dX4_append_44 : decode cX4_append 44 = .ok (.iload 4, 2) := by decide +kernel
theorem dX4_append_46 : decode cX4_append 46 = .ok (.invokevirtual 46, 3) := by decide +kernel
theorem dX4_append_49 : decode cX4_append 49 = .ok (.aload_n 0, 1) := by decide +kernel
theorem dX4_append_50 : decode cX4_append 50 = .ok (.getfield 29, 3) := by decide +kernel
theorem dX4_append_53 : decode cX4_append 53 = .ok (.aload_n 0, 1) := by decide +kernel
theorem dX4_append_54 : decode cX4_append 54 = .ok (.getfield 35, 3) := by decide +kernel
theorem dX4_append_57 : decode cX4_append 57 = .ok (.iload 5, 2) := by decide +kernel
theorem dX4_append_59 : decode cX4_append 59 = .ok (.invokevirtual 46, 3) := by decide +kernel
theorem dX4_append_62 : decode cX4_append 62 = .ok (.aload_n 0, 1) := by decide +kernel
theorem dX4_append_63 : decode cX4_append 63 = .ok (.getfield 32, 3) := by decide +kernel
theorem dX4_append_66 : decode cX4_append 66 = .ok (.aload_n 0, 1) := by decide +kernel
theorem dX4_append_67 : decode cX4_append 67 = .ok (.getfield 35, 3) := by decide +kernel
theorem dX4_append_70 : decode cX4_append 70 = .ok (.iload 6, 2) := by decide +kernel
theorem dX4_append_72 : decode cX4_append 72 = .ok (.invokevirtual 46, 3) := by decide +kernel
theorem dX4_append_75 : decode cX4_append 75 = .ok (.aload_n 0, 1) := by decide +kernel
theorem dX4_append_76 : decode cX4_append 76 = .ok (.dup, 1) := by decide +kernel
theorem dX4_append_77 : decode cX4_append 77 = .ok (.getfield 35, 3) := by decide +kernel
theorem dX4_append_80 : decode cX4_append 80 = .ok (.iconst 1, 1) := by decide +kernel
theorem dX4_append_81 : decode cX4_append 81 = .ok (.iadd, 1) := by decide +kernel
theorem dX4_append_82 : decode cX4_append 82 = .ok (.putfield 35, 3) := by decide +kernel
theorem dX4_append_85 : decode cX4_append 85 = .ok (.return_, 1) := by decide +kernel
theorem dX4_withdraw_0 : decode cX4_withdraw 0 = .ok (.aload_n 0, 1) := by decide +kernel
theorem dX4_withdraw_1 : decode cX4_withdraw 1 = .ok (.iload_n 1, 1) := by decide +kernel
theorem dX4_withdraw_2 : decode cX4_withdraw 2 = .ok (.invokevirtual 43, 3) := by decide +kernel
theorem dX4_withdraw_5 : decode cX4_withdraw 5 = .ok (.istore_n 2, 1) := by decide +kernel
theorem dX4_withdraw_6 : decode cX4_withdraw 6 = .ok (.aload_n 0, 1) := by decide +kernel
theorem dX4_withdraw_7 : decode cX4_withdraw 7 = .ok (.getfield 29, 3) := by decide +kernel
theorem dX4_withdraw_10 : decode cX4_withdraw 10 = .ok (.iload_n 2, 1) := by decide +kernel
theorem dX4_withdraw_11 : decode cX4_withdraw 11 = .ok (.invokevirtual 39, 3) := by decide +kernel
theorem dX4_withdraw_14 : decode cX4_withdraw 14 = .ok (.istore_n 3, 1) := by decide +kernel
theorem dX4_withdraw_15 : decode cX4_withdraw 15 = .ok (.aload_n 0, 1) := by decide +kernel
theorem dX4_withdraw_16 : decode cX4_withdraw 16 = .ok (.iload_n 2, 1) := by decide +kernel
theorem dX4_withdraw_17 : decode cX4_withdraw 17 = .ok (.invokevirtual 50, 3) := by decide +kernel
theorem dX4_withdraw_20 : decode cX4_withdraw 20 = .ok (.iload_n 3, 1) := by decide +kernel
theorem dX4_withdraw_21 : decode cX4_withdraw 21 = .ok (.ireturn, 1) := by decide +kernel
theorem dX4_removeAt_0 : decode cX4_removeAt 0 = .ok (.iload_n 1, 1) := by decide +kernel
theorem dX4_removeAt_1 : decode cX4_removeAt 1 = .ok (.ifCond .lt 11, 3) := by decide +kernel
theorem dX4_removeAt_4 : decode cX4_removeAt 4 = .ok (.iload_n 1, 1) := by decide +kernel
theorem dX4_removeAt_5 : decode cX4_removeAt 5 = .ok (.aload_n 0, 1) := by decide +kernel
theorem dX4_removeAt_6 : decode cX4_removeAt 6 = .ok (.getfield 35, 3) := by decide +kernel
theorem dX4_removeAt_9 : decode cX4_removeAt 9 = .ok (.if_icmp .lt 4, 3) := by decide +kernel
theorem dX4_removeAt_12 : decode cX4_removeAt 12 = .ok (.return_, 1) := by decide +kernel
theorem dX4_removeAt_13 : decode cX4_removeAt 13 = .ok (.aload_n 0, 1) := by decide +kernel
theorem dX4_removeAt_14 : decode cX4_removeAt 14 = .ok (.getfield 14, 3) := by decide +kernel
theorem dX4_removeAt_17 : decode cX4_removeAt 17 = .ok (.iload_n 1, 1) := by decide +kernel
theorem dX4_removeAt_18 : decode cX4_removeAt 18 = .ok (.invokevirtual 53, 3) := by decide +kernel
theorem dX4_removeAt_21 : decode cX4_removeAt 21 = .ok (.aload_n 0, 1) := by decide +kernel
theorem dX4_removeAt_22 : decode cX4_removeAt 22 = .ok (.getfield 20, 3) := by decide +kernel
theorem dX4_removeAt_25 : decode cX4_removeAt 25 = .ok (.iload_n 1, 1) := by decide +kernel
theorem dX4_removeAt_26 : decode cX4_removeAt 26 = .ok (.invokevirtual 53, 3) := by decide +kernel
theorem dX4_removeAt_29 : decode cX4_removeAt 29 = .ok (.aload_n 0, 1) := by decide +kernel
theorem dX4_removeAt_30 : decode cX4_removeAt 30 = .ok (.getfield 23, 3) := by decide +kernel
theorem dX4_removeAt_33 : decode cX4_removeAt 33 = .ok (.iload_n 1, 1) := by decide +kernel
theorem dX4_removeAt_34 : decode cX4_removeAt 34 = .ok (.invokevirtual 53, 3) := by decide +kernel
theorem dX4_removeAt_37 : decode cX4_removeAt 37 = .ok (.aload_n 0, 1) := by decide +kernel
theorem dX4_removeAt_38 : decode cX4_removeAt 38 = .ok (.getfield 26, 3) := by decide +kernel
theorem dX4_removeAt_41 : decode cX4_removeAt 41 = .ok (.iload_n 1, 1) := by decide +kernel
theorem dX4_removeAt_42 : decode cX4_removeAt 42 = .ok (.invokevirtual 53, 3) := by decide +kernel
theorem dX4_removeAt_45 : decode cX4_removeAt 45 = .ok (.aload_n 0, 1) := by decide +kernel
theorem dX4_removeAt_46 : decode cX4_removeAt 46 = .ok (.getfield 29, 3) := by decide +kernel
theorem dX4_removeAt_49 : decode cX4_removeAt 49 = .ok (.iload_n 1, 1) := by decide +kernel
theorem dX4_removeAt_50 : decode cX4_removeAt 50 = .ok (.invokevirtual 53, 3) := by decide +kernel
theorem dX4_removeAt_53 : decode cX4_removeAt 53 = .ok (.aload_n 0, 1) := by decide +kernel
theorem dX4_removeAt_54 : decode cX4_removeAt 54 = .ok (.getfield 32, 3) := by decide +kernel
theorem dX4_removeAt_57 : decode cX4_removeAt 57 = .ok (.iload_n 1, 1) := by decide +kernel
theorem dX4_removeAt_58 : decode cX4_removeAt 58 = .ok (.invokevirtual 53, 3) := by decide +kernel
theorem dX4_removeAt_61 : decode cX4_removeAt 61 = .ok (.aload_n 0, 1) := by decide +kernel
theorem dX4_removeAt_62 : decode cX4_removeAt 62 = .ok (.dup, 1) := by decide +kernel
theorem dX4_removeAt_63 : decode cX4_removeAt 63 = .ok (.getfield 35, 3) := by decide +kernel
theorem dX4_removeAt_66 : decode cX4_removeAt 66 = .ok (.iconst 1, 1) := by decide +kernel
theorem dX4_removeAt_67 : decode cX4_removeAt 67 = .ok (.isub, 1) := by decide +kernel
theorem dX4_removeAt_68 : decode cX4_removeAt 68 = .ok (.putfield 35, 3) := by decide +kernel
theorem dX4_removeAt_71 : decode cX4_removeAt 71 = .ok (.return_, 1) := by decide +kernel
theorem dX4_isAhead_0 : decode cX4_isAhead 0 = .ok (.aload_n 0, 1) := by decide +kernel
theorem dX4_isAhead_1 : decode cX4_isAhead 1 = .ok (.getfield 26, 3) := by decide +kernel
theorem dX4_isAhead_4 : decode cX4_isAhead 4 = .ok (.iload_n 1, 1) := by decide +kernel
theorem dX4_isAhead_5 : decode cX4_isAhead 5 = .ok (.invokevirtual 39, 3) := by decide +kernel
theorem dX4_isAhead_8 : decode cX4_isAhead 8 = .ok (.aload_n 0, 1) := by decide +kernel
theorem dX4_isAhead_9 : decode cX4_isAhead 9 = .ok (.getfield 26, 3) := by decide +kernel
theorem dX4_isAhead_12 : decode cX4_isAhead 12 = .ok (.iload_n 2, 1) := by decide +kernel
theorem dX4_isAhead_13 : decode cX4_isAhead 13 = .ok (.invokevirtual 39, 3) := by decide +kernel
theorem dX4_isAhead_16 : decode cX4_isAhead 16 = .ok (.isub, 1) := by decide +kernel
theorem dX4_isAhead_17 : decode cX4_isAhead 17 = .ok (.istore_n 3, 1) := by decide +kernel
theorem dX4_isAhead_18 : decode cX4_isAhead 18 = .ok (.iload_n 3, 1) := by decide +kernel
theorem dX4_isAhead_19 : decode cX4_isAhead 19 = .ok (.ifCond .ne 14, 3) := by decide +kernel
theorem dX4_isAhead_22 : decode cX4_isAhead 22 = .ok (.iload_n 1, 1) := by decide +kernel
theorem dX4_isAhead_23 : decode cX4_isAhead 23 = .ok (.iload_n 2, 1) := by decide +kernel
theorem dX4_isAhead_24 : decode cX4_isAhead 24 = .ok (.if_icmp .ge 7, 3) := by decide +kernel
theorem dX4_isAhead_27 : decode cX4_isAhead 27 = .ok (.iconst 1, 1) := by decide +kernel
theorem dX4_isAhead_28 : decode cX4_isAhead 28 = .ok (.goto 4, 3) := by decide +kernel
theorem dX4_isAhead_31 : decode cX4_isAhead 31 = .ok (.iconst 0, 1) := by decide +kernel
theorem dX4_isAhead_32 : decode cX4_isAhead 32 = .ok (.ireturn, 1) := by decide +kernel
theorem dX4_isAhead_33 : decode cX4_isAhead 33 = .ok (.aload_n 0, 1) := by decide +kernel
theorem dX4_isAhead_34 : decode cX4_isAhead 34 = .ok (.getfield 23, 3) := by decide +kernel
theorem dX4_isAhead_37 : decode cX4_isAhead 37 = .ok (.iload_n 1, 1) := by decide +kernel
theorem dX4_isAhead_38 : decode cX4_isAhead 38 = .ok (.invokevirtual 39, 3) := by decide +kernel
theorem dX4_isAhead_41 : decode cX4_isAhead 41 = .ok (.ifCond .ne 15, 3) := by decide +kernel
theorem dX4_isAhead_44 : decode cX4_isAhead 44 = .ok (.iload_n 3, 1) := by decide +kernel
theorem dX4_isAhead_45 : decode cX4_isAhead 45 = .ok (.ifCond .le 7, 3) := by decide +kernel
theorem dX4_isAhead_48 : decode cX4_isAhead 48 = .ok (.iconst 1, 1) := by decide +kernel
theorem dX4_isAhead_49 : decode cX4_isAhead 49 = .ok (.goto 16, 3) := by decide +kernel
theorem dX4_isAhead_52 : decode cX4_isAhead 52 = .ok (.iconst 0, 1) := by decide +kernel
theorem dX4_isAhead_53 : decode cX4_isAhead 53 = .ok (.goto 12, 3) := by decide +kernel
theorem dX4_isAhead_56 : decode cX4_isAhead 56 = .ok (.iload_n 3, 1) := by decide +kernel
theorem dX4_isAhead_57 : decode cX4_isAhead 57 = .ok (.ifCond .ge 7, 3) := by decide +kernel
theorem dX4_isAhead_60 : decode cX4_isAhead 60 = .ok (.iconst 1, 1) := by decide +kernel
theorem dX4_isAhead_61 : decode cX4_isAhead 61 = .ok (.goto 4, 3) := by decide +kernel
theorem dX4_isAhead_64 : decode cX4_isAhead 64 = .ok (.iconst 0, 1) := by decide +kernel
theorem dX4_isAhead_65 : decode cX4_isAhead 65 = .ok (.ireturn, 1) := by decide +kernel
theorem dX4_placeOf_0 : decode cX4_placeOf 0 = .ok (.iconst 0, 1) := by decide +kernel
theorem dX4_placeOf_1 : decode cX4_placeOf 1 = .ok (.istore_n 2, 1) := by decide +kernel
theorem dX4_placeOf_2 : decode cX4_placeOf 2 = .ok (.iconst 0, 1) := by decide +kernel
theorem dX4_placeOf_3 : decode cX4_placeOf 3 = .ok (.istore_n 3, 1) := by decide +kernel
theorem dX4_placeOf_4 : decode cX4_placeOf 4 = .ok (.iload_n 3, 1) := by decide +kernel
theorem dX4_placeOf_5 : decode cX4_placeOf 5 = .ok (.aload_n 0, 1) := by decide +kernel
theorem dX4_placeOf_6 : decode cX4_placeOf 6 = .ok (.getfield 35, 3) := by decide +kernel
theorem dX4_placeOf_9 : decode cX4_placeOf 9 = .ok (.if_icmp .ge 40, 3) := by decide +kernel
theorem dX4_placeOf_12 : decode cX4_placeOf 12 = .ok (.aload_n 0, 1) := by decide +kernel
theorem dX4_placeOf_13 : decode cX4_placeOf 13 = .ok (.getfield 23, 3) := by decide +kernel
theorem dX4_placeOf_16 : decode cX4_placeOf 16 = .ok (.iload_n 3, 1) := by decide +kernel
theorem dX4_placeOf_17 : decode cX4_placeOf 17 = .ok (.invokevirtual 39, 3) := by decide +kernel
theorem dX4_placeOf_20 : decode cX4_placeOf 20 = .ok (.aload_n 0, 1) := by decide +kernel
theorem dX4_placeOf_21 : decode cX4_placeOf 21 = .ok (.getfield 23, 3) := by decide +kernel
theorem dX4_placeOf_24 : decode cX4_placeOf 24 = .ok (.iload_n 1, 1) := by decide +kernel
theorem dX4_placeOf_25 : decode cX4_placeOf 25 = .ok (.invokevirtual 39, 3) := by decide +kernel
theorem dX4_placeOf_28 : decode cX4_placeOf 28 = .ok (.if_icmp .ne 15, 3) := by decide +kernel
theorem dX4_placeOf_31 : decode cX4_placeOf 31 = .ok (.aload_n 0, 1) := by decide +kernel
theorem dX4_placeOf_32 : decode cX4_placeOf 32 = .ok (.iload_n 3, 1) := by decide +kernel
theorem dX4_placeOf_33 : decode cX4_placeOf 33 = .ok (.iload_n 1, 1) := by decide +kernel
theorem dX4_placeOf_34 : decode cX4_placeOf 34 = .ok (.invokevirtual 54, 3) := by decide +kernel
theorem dX4_placeOf_37 : decode cX4_placeOf 37 = .ok (.ifCond .eq 6, 3) := by decide +kernel
theorem dX4_placeOf_40 : decode cX4_placeOf 40 = .ok (.iinc 2 1, 3) := by decide +kernel
theorem dX4_placeOf_43 : decode cX4_placeOf 43 = .ok (.iinc 3 1, 3) := by decide +kernel
theorem dX4_placeOf_46 : decode cX4_placeOf 46 = .ok (.goto (-42), 3) := by decide +kernel
theorem dX4_placeOf_49 : decode cX4_placeOf 49 = .ok (.iload_n 2, 1) := by decide +kernel
theorem dX4_placeOf_50 : decode cX4_placeOf 50 = .ok (.ireturn, 1) := by decide +kernel
theorem dX4_accepts_0 : decode cX4_accepts 0 = .ok (.aload_n 0, 1) := by decide +kernel
theorem dX4_accepts_1 : decode cX4_accepts 1 = .ok (.getfield 23, 3) := by decide +kernel
theorem dX4_accepts_4 : decode cX4_accepts 4 = .ok (.iload_n 1, 1) := by decide +kernel
theorem dX4_accepts_5 : decode cX4_accepts 5 = .ok (.invokevirtual 39, 3) := by decide +kernel
theorem dX4_accepts_8 : decode cX4_accepts 8 = .ok (.ifCond .ne 23, 3) := by decide +kernel
theorem dX4_accepts_11 : decode cX4_accepts 11 = .ok (.aload_n 0, 1) := by decide +kernel
theorem dX4_accepts_12 : decode cX4_accepts 12 = .ok (.getfield 26, 3) := by decide +kernel
theorem dX4_accepts_15 : decode cX4_accepts 15 = .ok (.iload_n 1, 1) := by decide +kernel
theorem dX4_accepts_16 : decode cX4_accepts 16 = .ok (.invokevirtual 39, 3) := by decide +kernel
theorem dX4_accepts_19 : decode cX4_accepts 19 = .ok (.iload_n 2, 1) := by decide +kernel
theorem dX4_accepts_20 : decode cX4_accepts 20 = .ok (.if_icmp .lt 7, 3) := by decide +kernel
theorem dX4_accepts_23 : decode cX4_accepts 23 = .ok (.iconst 1, 1) := by decide +kernel
theorem dX4_accepts_24 : decode cX4_accepts 24 = .ok (.goto 24, 3) := by decide +kernel
theorem dX4_accepts_27 : decode cX4_accepts 27 = .ok (.iconst 0, 1) := by decide +kernel
theorem dX4_accepts_28 : decode cX4_accepts 28 = .ok (.goto 20, 3) := by decide +kernel
theorem dX4_accepts_31 : decode cX4_accepts 31 = .ok (.aload_n 0, 1) := by decide +kernel
theorem dX4_accepts_32 : decode cX4_accepts 32 = .ok (.getfield 26, 3) := by decide +kernel
theorem dX4_accepts_35 : decode cX4_accepts 35 = .ok (.iload_n 1, 1) := by decide +kernel
theorem dX4_accepts_36 : decode cX4_accepts 36 = .ok (.invokevirtual 39, 3) := by decide +kernel
theorem dX4_accepts_39 : decode cX4_accepts 39 = .ok (.iload_n 2, 1) := by decide +kernel
theorem dX4_accepts_40 : decode cX4_accepts 40 = .ok (.if_icmp .gt 7, 3) := by decide +kernel
theorem dX4_accepts_43 : decode cX4_accepts 43 = .ok (.iconst 1, 1) := by decide +kernel
theorem dX4_accepts_44 : decode cX4_accepts 44 = .ok (.goto 4, 3) := by decide +kernel
theorem dX4_accepts_47 : decode cX4_accepts 47 = .ok (.iconst 0, 1) := by decide +kernel
theorem dX4_accepts_48 : decode cX4_accepts 48 = .ok (.ireturn, 1) := by decide +kernel
theorem dX4_unitsAt_0 : decode cX4_unitsAt 0 = .ok (.iconst 0, 1) := by decide +kernel
theorem dX4_unitsAt_1 : decode cX4_unitsAt 1 = .ok (.istore_n 3, 1) := by decide +kernel
theorem dX4_unitsAt_2 : decode cX4_unitsAt 2 = .ok (.iconst 0, 1) := by decide +kernel
theorem dX4_unitsAt_3 : decode cX4_unitsAt 3 = .ok (.istore 4, 2) := by decide +kernel
theorem dX4_unitsAt_5 : decode cX4_unitsAt 5 = .ok (.iload 4, 2) := by decide +kernel
theorem dX4_unitsAt_7 : decode cX4_unitsAt 7 = .ok (.aload_n 0, 1) := by decide +kernel
theorem dX4_unitsAt_8 : decode cX4_unitsAt 8 = .ok (.getfield 35, 3) := by decide +kernel
theorem dX4_unitsAt_11 : decode cX4_unitsAt 11 = .ok (.if_icmp .ge 44, 3) := by decide +kernel
theorem dX4_unitsAt_14 : decode cX4_unitsAt 14 = .ok (.aload_n 0, 1) := by decide +kernel
theorem dX4_unitsAt_15 : decode cX4_unitsAt 15 = .ok (.getfield 23, 3) := by decide +kernel
theorem dX4_unitsAt_18 : decode cX4_unitsAt 18 = .ok (.iload 4, 2) := by decide +kernel
theorem dX4_unitsAt_20 : decode cX4_unitsAt 20 = .ok (.invokevirtual 39, 3) := by decide +kernel
theorem dX4_unitsAt_23 : decode cX4_unitsAt 23 = .ok (.iload_n 1, 1) := by decide +kernel
theorem dX4_unitsAt_24 : decode cX4_unitsAt 24 = .ok (.if_icmp .ne 25, 3) := by decide +kernel
theorem dX4_unitsAt_27 : decode cX4_unitsAt 27 = .ok (.aload_n 0, 1) := by decide +kernel
theorem dX4_unitsAt_28 : decode cX4_unitsAt 28 = .ok (.iload 4, 2) := by decide +kernel
theorem dX4_unitsAt_30 : decode cX4_unitsAt 30 = .ok (.iload_n 2, 1) := by decide +kernel
theorem dX4_unitsAt_31 : decode cX4_unitsAt 31 = .ok (.invokevirtual 58, 3) := by decide +kernel
theorem dX4_unitsAt_34 : decode cX4_unitsAt 34 = .ok (.ifCond .eq 15, 3) := by decide +kernel
theorem dX4_unitsAt_37 : decode cX4_unitsAt 37 = .ok (.iload_n 3, 1) := by decide +kernel
theorem dX4_unitsAt_38 : decode cX4_unitsAt 38 = .ok (.aload_n 0, 1) := by decide +kernel
theorem dX4_unitsAt_39 : decode cX4_unitsAt 39 = .ok (.getfield 29, 3) := by decide +kernel
theorem dX4_unitsAt_42 : decode cX4_unitsAt 42 = .ok (.iload 4, 2) := by decide +kernel
theorem dX4_unitsAt_44 : decode cX4_unitsAt 44 = .ok (.invokevirtual 39, 3) := by decide +kernel
theorem dX4_unitsAt_47 : decode cX4_unitsAt 47 = .ok (.iadd, 1) := by decide +kernel
theorem dX4_unitsAt_48 : decode cX4_unitsAt 48 = .ok (.istore_n 3, 1) := by decide +kernel
theorem dX4_unitsAt_49 : decode cX4_unitsAt 49 = .ok (.iinc 4 1, 3) := by decide +kernel
theorem dX4_unitsAt_52 : decode cX4_unitsAt 52 = .ok (.goto (-47), 3) := by decide +kernel
theorem dX4_unitsAt_55 : decode cX4_unitsAt 55 = .ok (.iload_n 3, 1) := by decide +kernel
theorem dX4_unitsAt_56 : decode cX4_unitsAt 56 = .ok (.ireturn, 1) := by decide +kernel
theorem dX4_bookValue_0 : decode cX4_bookValue 0 = .ok (.iload_n 2, 1) := by decide +kernel
theorem dX4_bookValue_1 : decode cX4_bookValue 1 = .ok (.lookupswitch 41 #[(0, 27), (1, 34)], 27) := by decide +kernel
theorem dX4_bookValue_28 : decode cX4_bookValue 28 = .ok (.aload_n 0, 1) := by decide +kernel
theorem dX4_bookValue_29 : decode cX4_bookValue 29 = .ok (.iconst 0, 1) := by decide +kernel
theorem dX4_bookValue_30 : decode cX4_bookValue 30 = .ok (.iload_n 1, 1) := by decide +kernel
theorem dX4_bookValue_31 : decode cX4_bookValue 31 = .ok (.invokevirtual 61, 3) := by decide +kernel
theorem dX4_bookValue_34 : decode cX4_bookValue 34 = .ok (.ireturn, 1) := by decide +kernel
theorem dX4_bookValue_35 : decode cX4_bookValue 35 = .ok (.aload_n 0, 1) := by decide +kernel
theorem dX4_bookValue_36 : decode cX4_bookValue 36 = .ok (.iconst 1, 1) := by decide +kernel
theorem dX4_bookValue_37 : decode cX4_bookValue 37 = .ok (.iload_n 1, 1) := by decide +kernel
theorem dX4_bookValue_38 : decode cX4_bookValue 38 = .ok (.invokevirtual 61, 3) := by decide +kernel
theorem dX4_bookValue_41 : decode cX4_bookValue 41 = .ok (.ireturn, 1) := by decide +kernel
theorem dX4_bookValue_42 : decode cX4_bookValue 42 = .ok (.aload_n 0, 1) := by decide +kernel
theorem dX4_bookValue_43 : decode cX4_bookValue 43 = .ok (.iconst 0, 1) := by decide +kernel
theorem dX4_bookValue_44 : decode cX4_bookValue 44 = .ok (.iload_n 1, 1) := by decide +kernel
theorem dX4_bookValue_45 : decode cX4_bookValue 45 = .ok (.invokevirtual 61, 3) := by decide +kernel
theorem dX4_bookValue_48 : decode cX4_bookValue 48 = .ok (.aload_n 0, 1) := by decide +kernel
theorem dX4_bookValue_49 : decode cX4_bookValue 49 = .ok (.iconst 1, 1) := by decide +kernel
theorem dX4_bookValue_50 : decode cX4_bookValue 50 = .ok (.iload_n 1, 1) := by decide +kernel
theorem dX4_bookValue_51 : decode cX4_bookValue 51 = .ok (.invokevirtual 61, 3) := by decide +kernel
theorem dX4_bookValue_54 : decode cX4_bookValue 54 = .ok (.invokestatic 65, 3) := by decide +kernel
theorem dX4_bookValue_57 : decode cX4_bookValue 57 = .ok (.ireturn, 1) := by decide +kernel
theorem dX4_countOf_0 : decode cX4_countOf 0 = .ok (.iconst 0, 1) := by decide +kernel
theorem dX4_countOf_1 : decode cX4_countOf 1 = .ok (.istore_n 2, 1) := by decide +kernel
theorem dX4_countOf_2 : decode cX4_countOf 2 = .ok (.iconst 0, 1) := by decide +kernel
theorem dX4_countOf_3 : decode cX4_countOf 3 = .ok (.istore_n 3, 1) := by decide +kernel
theorem dX4_countOf_4 : decode cX4_countOf 4 = .ok (.iload_n 3, 1) := by decide +kernel
theorem dX4_countOf_5 : decode cX4_countOf 5 = .ok (.aload_n 0, 1) := by decide +kernel
theorem dX4_countOf_6 : decode cX4_countOf 6 = .ok (.getfield 35, 3) := by decide +kernel
theorem dX4_countOf_9 : decode cX4_countOf 9 = .ok (.if_icmp .ge 24, 3) := by decide +kernel
theorem dX4_countOf_12 : decode cX4_countOf 12 = .ok (.aload_n 0, 1) := by decide +kernel
theorem dX4_countOf_13 : decode cX4_countOf 13 = .ok (.getfield 20, 3) := by decide +kernel
theorem dX4_countOf_16 : decode cX4_countOf 16 = .ok (.iload_n 3, 1) := by decide +kernel
theorem dX4_countOf_17 : decode cX4_countOf 17 = .ok (.invokevirtual 39, 3) := by decide +kernel
theorem dX4_countOf_20 : decode cX4_countOf 20 = .ok (.iload_n 1, 1) := by decide +kernel
theorem dX4_countOf_21 : decode cX4_countOf 21 = .ok (.if_icmp .ne 6, 3) := by decide +kernel
theorem dX4_countOf_24 : decode cX4_countOf 24 = .ok (.iinc 2 1, 3) := by decide +kernel
theorem dX4_countOf_27 : decode cX4_countOf 27 = .ok (.iinc 3 1, 3) := by decide +kernel
theorem dX4_countOf_30 : decode cX4_countOf 30 = .ok (.goto (-26), 3) := by decide +kernel
theorem dX4_countOf_33 : decode cX4_countOf 33 = .ok (.iload_n 2, 1) := by decide +kernel
theorem dX4_countOf_34 : decode cX4_countOf 34 = .ok (.ireturn, 1) := by decide +kernel
theorem dX4_unitsOf_0 : decode cX4_unitsOf 0 = .ok (.iconst 0, 1) := by decide +kernel
theorem dX4_unitsOf_1 : decode cX4_unitsOf 1 = .ok (.istore_n 2, 1) := by decide +kernel
theorem dX4_unitsOf_2 : decode cX4_unitsOf 2 = .ok (.iconst 0, 1) := by decide +kernel
theorem dX4_unitsOf_3 : decode cX4_unitsOf 3 = .ok (.istore_n 3, 1) := by decide +kernel
theorem dX4_unitsOf_4 : decode cX4_unitsOf 4 = .ok (.iload_n 3, 1) := by decide +kernel
theorem dX4_unitsOf_5 : decode cX4_unitsOf 5 = .ok (.aload_n 0, 1) := by decide +kernel
theorem dX4_unitsOf_6 : decode cX4_unitsOf 6 = .ok (.getfield 35, 3) := by decide +kernel
theorem dX4_unitsOf_9 : decode cX4_unitsOf 9 = .ok (.if_icmp .ge 32, 3) := by decide +kernel
theorem dX4_unitsOf_12 : decode cX4_unitsOf 12 = .ok (.aload_n 0, 1) := by decide +kernel
theorem dX4_unitsOf_13 : decode cX4_unitsOf 13 = .ok (.getfield 20, 3) := by decide +kernel
theorem dX4_unitsOf_16 : decode cX4_unitsOf 16 = .ok (.iload_n 3, 1) := by decide +kernel
theorem dX4_unitsOf_17 : decode cX4_unitsOf 17 = .ok (.invokevirtual 39, 3) := by decide +kernel
theorem dX4_unitsOf_20 : decode cX4_unitsOf 20 = .ok (.iload_n 1, 1) := by decide +kernel
theorem dX4_unitsOf_21 : decode cX4_unitsOf 21 = .ok (.if_icmp .ne 14, 3) := by decide +kernel
theorem dX4_unitsOf_24 : decode cX4_unitsOf 24 = .ok (.iload_n 2, 1) := by decide +kernel
theorem dX4_unitsOf_25 : decode cX4_unitsOf 25 = .ok (.aload_n 0, 1) := by decide +kernel
theorem dX4_unitsOf_26 : decode cX4_unitsOf 26 = .ok (.getfield 29, 3) := by decide +kernel
theorem dX4_unitsOf_29 : decode cX4_unitsOf 29 = .ok (.iload_n 3, 1) := by decide +kernel
theorem dX4_unitsOf_30 : decode cX4_unitsOf 30 = .ok (.invokevirtual 39, 3) := by decide +kernel
theorem dX4_unitsOf_33 : decode cX4_unitsOf 33 = .ok (.iadd, 1) := by decide +kernel
theorem dX4_unitsOf_34 : decode cX4_unitsOf 34 = .ok (.istore_n 2, 1) := by decide +kernel
theorem dX4_unitsOf_35 : decode cX4_unitsOf 35 = .ok (.iinc 3 1, 3) := by decide +kernel
theorem dX4_unitsOf_38 : decode cX4_unitsOf 38 = .ok (.goto (-34), 3) := by decide +kernel
theorem dX4_unitsOf_41 : decode cX4_unitsOf 41 = .ok (.iload_n 2, 1) := by decide +kernel
theorem dX4_unitsOf_42 : decode cX4_unitsOf 42 = .ok (.ireturn, 1) := by decide +kernel
theorem dX4_valueOf_0 : decode cX4_valueOf 0 = .ok (.iload_n 2, 1) := by decide +kernel
theorem dX4_valueOf_1 : decode cX4_valueOf 1 = .ok (.tableswitch 67 0 3 #[31, 40, 49, 58], 31) := by decide +kernel
theorem dX4_valueOf_32 : decode cX4_valueOf 32 = .ok (.aload_n 0, 1) := by decide +kernel
theorem dX4_valueOf_33 : decode cX4_valueOf 33 = .ok (.getfield 20, 3) := by decide +kernel
theorem dX4_valueOf_36 : decode cX4_valueOf 36 = .ok (.iload_n 1, 1) := by decide +kernel
theorem dX4_valueOf_37 : decode cX4_valueOf 37 = .ok (.invokevirtual 39, 3) := by decide +kernel
theorem dX4_valueOf_40 : decode cX4_valueOf 40 = .ok (.ireturn, 1) := by decide +kernel
theorem dX4_valueOf_41 : decode cX4_valueOf 41 = .ok (.aload_n 0, 1) := by decide +kernel
theorem dX4_valueOf_42 : decode cX4_valueOf 42 = .ok (.getfield 26, 3) := by decide +kernel
theorem dX4_valueOf_45 : decode cX4_valueOf 45 = .ok (.iload_n 1, 1) := by decide +kernel
theorem dX4_valueOf_46 : decode cX4_valueOf 46 = .ok (.invokevirtual 39, 3) := by decide +kernel
theorem dX4_valueOf_49 : decode cX4_valueOf 49 = .ok (.ireturn, 1) := by decide +kernel
theorem dX4_valueOf_50 : decode cX4_valueOf 50 = .ok (.aload_n 0, 1) := by decide +kernel
theorem dX4_valueOf_51 : decode cX4_valueOf 51 = .ok (.getfield 29, 3) := by decide +kernel
theorem dX4_valueOf_54 : decode cX4_valueOf 54 = .ok (.iload_n 1, 1) := by decide +kernel
theorem dX4_valueOf_55 : decode cX4_valueOf 55 = .ok (.invokevirtual 39, 3) := by decide +kernel
theorem dX4_valueOf_58 : decode cX4_valueOf 58 = .ok (.ireturn, 1) := by decide +kernel
theorem dX4_valueOf_59 : decode cX4_valueOf 59 = .ok (.aload_n 0, 1) := by decide +kernel
theorem dX4_valueOf_60 : decode cX4_valueOf 60 = .ok (.getfield 32, 3) := by decide +kernel
theorem dX4_valueOf_63 : decode cX4_valueOf 63 = .ok (.iload_n 1, 1) := by decide +kernel
theorem dX4_valueOf_64 : decode cX4_valueOf 64 = .ok (.invokevirtual 39, 3) := by decide +kernel
theorem dX4_valueOf_67 : decode cX4_valueOf 67 = .ok (.ireturn, 1) := by decide +kernel
theorem dX4_valueOf_68 : decode cX4_valueOf 68 = .ok (.aload_n 0, 1) := by decide +kernel
theorem dX4_valueOf_69 : decode cX4_valueOf 69 = .ok (.iload_n 1, 1) := by decide +kernel
theorem dX4_valueOf_70 : decode cX4_valueOf 70 = .ok (.invokevirtual 70, 3) := by decide +kernel
theorem dX4_valueOf_73 : decode cX4_valueOf 73 = .ok (.ireturn, 1) := by decide +kernel
theorem dX4_removeEmpty_0 : decode cX4_removeEmpty 0 = .ok (.aload_n 0, 1) := by decide +kernel
theorem dX4_removeEmpty_1 : decode cX4_removeEmpty 1 = .ok (.getfield 35, 3) := by decide +kernel
theorem dX4_removeEmpty_4 : decode cX4_removeEmpty 4 = .ok (.iconst 1, 1) := by decide +kernel
theorem dX4_removeEmpty_5 : decode cX4_removeEmpty 5 = .ok (.isub, 1) := by decide +kernel
theorem dX4_removeEmpty_6 : decode cX4_removeEmpty 6 = .ok (.istore_n 1, 1) := by decide +kernel
theorem dX4_removeEmpty_7 : decode cX4_removeEmpty 7 = .ok (.iload_n 1, 1) := by decide +kernel
theorem dX4_removeEmpty_8 : decode cX4_removeEmpty 8 = .ok (.ifCond .lt 25, 3) := by decide +kernel
theorem dX4_removeEmpty_11 : decode cX4_removeEmpty 11 = .ok (.aload_n 0, 1) := by decide +kernel
theorem dX4_removeEmpty_12 : decode cX4_removeEmpty 12 = .ok (.getfield 29, 3) := by decide +kernel
theorem dX4_removeEmpty_15 : decode cX4_removeEmpty 15 = .ok (.iload_n 1, 1) := by decide +kernel
theorem dX4_removeEmpty_16 : decode cX4_removeEmpty 16 = .ok (.invokevirtual 39, 3) := by decide +kernel
theorem dX4_removeEmpty_19 : decode cX4_removeEmpty 19 = .ok (.ifCond .ne 8, 3) := by decide +kernel
theorem dX4_removeEmpty_22 : decode cX4_removeEmpty 22 = .ok (.aload_n 0, 1) := by decide +kernel
theorem dX4_removeEmpty_23 : decode cX4_removeEmpty 23 = .ok (.iload_n 1, 1) := by decide +kernel
theorem dX4_removeEmpty_24 : decode cX4_removeEmpty 24 = .ok (.invokevirtual 50, 3) := by decide +kernel
theorem dX4_removeEmpty_27 : decode cX4_removeEmpty 27 = .ok (.iinc 1 (-1), 3) := by decide +kernel
theorem dX4_removeEmpty_30 : decode cX4_removeEmpty 30 = .ok (.goto (-23), 3) := by decide +kernel
theorem dX4_removeEmpty_33 : decode cX4_removeEmpty 33 = .ok (.return_, 1) := by decide +kernel
theorem dX4_removeUpTo_0 : decode cX4_removeUpTo 0 = .ok (.aload_n 0, 1) := by decide +kernel
theorem dX4_removeUpTo_1 : decode cX4_removeUpTo 1 = .ok (.getfield 35, 3) := by decide +kernel
theorem dX4_removeUpTo_4 : decode cX4_removeUpTo 4 = .ok (.istore_n 2, 1) := by decide +kernel
theorem dX4_removeUpTo_5 : decode cX4_removeUpTo 5 = .ok (.aload_n 0, 1) := by decide +kernel
theorem dX4_removeUpTo_6 : decode cX4_removeUpTo 6 = .ok (.getfield 35, 3) := by decide +kernel
theorem dX4_removeUpTo_9 : decode cX4_removeUpTo 9 = .ok (.iconst 1, 1) := by decide +kernel
theorem dX4_removeUpTo_10 : decode cX4_removeUpTo 10 = .ok (.isub, 1) := by decide +kernel
theorem dX4_removeUpTo_11 : decode cX4_removeUpTo 11 = .ok (.istore_n 3, 1) := by decide +kernel
theorem dX4_removeUpTo_12 : decode cX4_removeUpTo 12 = .ok (.iload_n 3, 1) := by decide +kernel
theorem dX4_removeUpTo_13 : decode cX4_removeUpTo 13 = .ok (.ifCond .lt 26, 3) := by decide +kernel
theorem dX4_removeUpTo_16 : decode cX4_removeUpTo 16 = .ok (.aload_n 0, 1) := by decide +kernel
theorem dX4_removeUpTo_17 : decode cX4_removeUpTo 17 = .ok (.getfield 32, 3) := by decide +kernel
theorem dX4_removeUpTo_20 : decode cX4_removeUpTo 20 = .ok (.iload_n 3, 1) := by decide +kernel
theorem dX4_removeUpTo_21 : decode cX4_removeUpTo 21 = .ok (.invokevirtual 39, 3) := by decide +kernel
theorem dX4_removeUpTo_24 : decode cX4_removeUpTo 24 = .ok (.iload_n 1, 1) := by decide +kernel
theorem dX4_removeUpTo_25 : decode cX4_removeUpTo 25 = .ok (.if_icmp .gt 8, 3) := by decide +kernel
theorem dX4_removeUpTo_28 : decode cX4_removeUpTo 28 = .ok (.aload_n 0, 1) := by decide +kernel
theorem dX4_removeUpTo_29 : decode cX4_removeUpTo 29 = .ok (.iload_n 3, 1) := by decide +kernel
theorem dX4_removeUpTo_30 : decode cX4_removeUpTo 30 = .ok (.invokevirtual 50, 3) := by decide +kernel
theorem dX4_removeUpTo_33 : decode cX4_removeUpTo 33 = .ok (.iinc 3 (-1), 3) := by decide +kernel
theorem dX4_removeUpTo_36 : decode cX4_removeUpTo 36 = .ok (.goto (-24), 3) := by decide +kernel
theorem dX4_removeUpTo_39 : decode cX4_removeUpTo 39 = .ok (.iload_n 2, 1) := by decide +kernel
theorem dX4_removeUpTo_40 : decode cX4_removeUpTo 40 = .ok (.aload_n 0, 1) := by decide +kernel
theorem dX4_removeUpTo_41 : decode cX4_removeUpTo 41 = .ok (.getfield 35, 3) := by decide +kernel
theorem dX4_removeUpTo_44 : decode cX4_removeUpTo 44 = .ok (.isub, 1) := by decide +kernel
theorem dX4_removeUpTo_45 : decode cX4_removeUpTo 45 = .ok (.ireturn, 1) := by decide +kernel
theorem dX4_copyFrom_0 : decode cX4_copyFrom 0 = .ok (.aload_n 0, 1) := by decide +kernel
theorem dX4_copyFrom_1 : decode cX4_copyFrom 1 = .ok (.aload_n 1, 1) := by decide +kernel
theorem dX4_copyFrom_2 : decode cX4_copyFrom 2 = .ok (.getfield 35, 3) := by decide +kernel
theorem dX4_copyFrom_5 : decode cX4_copyFrom 5 = .ok (.putfield 35, 3) := by decide +kernel
theorem dX4_copyFrom_8 : decode cX4_copyFrom 8 = .ok (.aload_n 0, 1) := by decide +kernel
theorem dX4_copyFrom_9 : decode cX4_copyFrom 9 = .ok (.getfield 14, 3) := by decide +kernel
theorem dX4_copyFrom_12 : decode cX4_copyFrom 12 = .ok (.aload_n 1, 1) := by decide +kernel
theorem dX4_copyFrom_13 : decode cX4_copyFrom 13 = .ok (.getfield 14, 3) := by decide +kernel
theorem dX4_copyFrom_16 : decode cX4_copyFrom 16 = .ok (.invokevirtual 73, 3) := by decide +kernel
theorem dX4_copyFrom_19 : decode cX4_copyFrom 19 = .ok (.aload_n 0, 1) := by decide +kernel
theorem dX4_copyFrom_20 : decode cX4_copyFrom 20 = .ok (.getfield 20, 3) := by decide +kernel
theorem dX4_copyFrom_23 : decode cX4_copyFrom 23 = .ok (.aload_n 1, 1) := by decide +kernel
theorem dX4_copyFrom_24 : decode cX4_copyFrom 24 = .ok (.getfield 20, 3) := by decide +kernel
theorem dX4_copyFrom_27 : decode cX4_copyFrom 27 = .ok (.invokevirtual 73, 3) := by decide +kernel
theorem dX4_copyFrom_30 : decode cX4_copyFrom 30 = .ok (.aload_n 0, 1) := by decide +kernel
theorem dX4_copyFrom_31 : decode cX4_copyFrom 31 = .ok (.getfield 23, 3) := by decide +kernel
theorem dX4_copyFrom_34 : decode cX4_copyFrom 34 = .ok (.aload_n 1, 1) := by decide +kernel
theorem dX4_copyFrom_35 : decode cX4_copyFrom 35 = .ok (.getfield 23, 3) := by decide +kernel
theorem dX4_copyFrom_38 : decode cX4_copyFrom 38 = .ok (.invokevirtual 73, 3) := by decide +kernel
theorem dX4_copyFrom_41 : decode cX4_copyFrom 41 = .ok (.aload_n 0, 1) := by decide +kernel
theorem dX4_copyFrom_42 : decode cX4_copyFrom 42 = .ok (.getfield 26, 3) := by decide +kernel
theorem dX4_copyFrom_45 : decode cX4_copyFrom 45 = .ok (.aload_n 1, 1) := by decide +kernel
theorem dX4_copyFrom_46 : decode cX4_copyFrom 46 = .ok (.getfield 26, 3) := by decide +kernel
theorem dX4_copyFrom_49 : decode cX4_copyFrom 49 = .ok (.invokevirtual 73, 3) := by decide +kernel
theorem dX4_copyFrom_52 : decode cX4_copyFrom 52 = .ok (.aload_n 0, 1) := by decide +kernel
theorem dX4_copyFrom_53 : decode cX4_copyFrom 53 = .ok (.getfield 29, 3) := by decide +kernel
theorem dX4_copyFrom_56 : decode cX4_copyFrom 56 = .ok (.aload_n 1, 1) := by decide +kernel
theorem dX4_copyFrom_57 : decode cX4_copyFrom 57 = .ok (.getfield 29, 3) := by decide +kernel
theorem dX4_copyFrom_60 : decode cX4_copyFrom 60 = .ok (.invokevirtual 73, 3) := by decide +kernel
theorem dX4_copyFrom_63 : decode cX4_copyFrom 63 = .ok (.aload_n 0, 1) := by decide +kernel
theorem dX4_copyFrom_64 : decode cX4_copyFrom 64 = .ok (.getfield 32, 3) := by decide +kernel
theorem dX4_copyFrom_67 : decode cX4_copyFrom 67 = .ok (.aload_n 1, 1) := by decide +kernel
theorem dX4_copyFrom_68 : decode cX4_copyFrom 68 = .ok (.getfield 32, 3) := by decide +kernel
theorem dX4_copyFrom_71 : decode cX4_copyFrom 71 = .ok (.invokevirtual 73, 3) := by decide +kernel
theorem dX4_copyFrom_74 : decode cX4_copyFrom 74 = .ok (.return_, 1) := by decide +kernel
theorem dX5_init_0 : decode cX5_init 0 = .ok (.aload_n 0, 1) := by decide +kernel
theorem dX5_init_1 : decode cX5_init 1 = .ok (.invokespecial 1, 3) := by decide +kernel
theorem dX5_init_4 : decode cX5_init 4 = .ok (.aload_n 0, 1) := by decide +kernel
theorem dX5_init_5 : decode cX5_init 5 = .ok (.iload_n 1, 1) := by decide +kernel
theorem dX5_init_6 : decode cX5_init 6 = .ok (.ifCond .le 7, 3) := by decide +kernel
theorem dX5_init_9 : decode cX5_init 9 = .ok (.iload_n 1, 1) := by decide +kernel
theorem dX5_init_10 : decode cX5_init 10 = .ok (.goto 4, 3) := by decide +kernel
theorem dX5_init_13 : decode cX5_init 13 = .ok (.iconst 0, 1) := by decide +kernel
theorem dX5_init_14 : decode cX5_init 14 = .ok (.newarray .int, 2) := by decide +kernel
theorem dX5_init_16 : decode cX5_init 16 = .ok (.putfield 7, 3) := by decide +kernel
theorem dX5_init_19 : decode cX5_init 19 = .ok (.return_, 1) := by decide +kernel
theorem dX5_get_0 : decode cX5_get 0 = .ok (.iload_n 1, 1) := by decide +kernel
theorem dX5_get_1 : decode cX5_get 1 = .ok (.ifCond .lt 21, 3) := by decide +kernel
theorem dX5_get_4 : decode cX5_get 4 = .ok (.iload_n 1, 1) := by decide +kernel
theorem dX5_get_5 : decode cX5_get 5 = .ok (.aload_n 0, 1) := by decide +kernel
theorem dX5_get_6 : decode cX5_get 6 = .ok (.getfield 7, 3) := by decide +kernel
theorem dX5_get_9 : decode cX5_get 9 = .ok (.arraylength, 1) := by decide +kernel
theorem dX5_get_10 : decode cX5_get 10 = .ok (.if_icmp .ge 12, 3) := by decide +kernel
theorem dX5_get_13 : decode cX5_get 13 = .ok (.aload_n 0, 1) := by decide +kernel
theorem dX5_get_14 : decode cX5_get 14 = .ok (.getfield 7, 3) := by decide +kernel
theorem dX5_get_17 : decode cX5_get 17 = .ok (.iload_n 1, 1) := by decide +kernel
theorem dX5_get_18 : decode cX5_get 18 = .ok (.iaload, 1) := by decide +kernel
theorem dX5_get_19 : decode cX5_get 19 = .ok (.goto 4, 3) := by decide +kernel
theorem dX5_get_22 : decode cX5_get 22 = .ok (.iconst 0, 1) := by decide +kernel
theorem dX5_get_23 : decode cX5_get 23 = .ok (.ireturn, 1) := by decide +kernel
theorem dX5_put_0 : decode cX5_put 0 = .ok (.iload_n 1, 1) := by decide +kernel
theorem dX5_put_1 : decode cX5_put 1 = .ok (.ifCond .lt 19, 3) := by decide +kernel
theorem dX5_put_4 : decode cX5_put 4 = .ok (.iload_n 1, 1) := by decide +kernel
theorem dX5_put_5 : decode cX5_put 5 = .ok (.aload_n 0, 1) := by decide +kernel
theorem dX5_put_6 : decode cX5_put 6 = .ok (.getfield 7, 3) := by decide +kernel
theorem dX5_put_9 : decode cX5_put 9 = .ok (.arraylength, 1) := by decide +kernel
theorem dX5_put_10 : decode cX5_put 10 = .ok (.if_icmp .ge 10, 3) := by decide +kernel
theorem dX5_put_13 : decode cX5_put 13 = .ok (.aload_n 0, 1) := by decide +kernel
theorem dX5_put_14 : decode cX5_put 14 = .ok (.getfield 7, 3) := by decide +kernel
theorem dX5_put_17 : decode cX5_put 17 = .ok (.iload_n 1, 1) := by decide +kernel
theorem dX5_put_18 : decode cX5_put 18 = .ok (.iload_n 2, 1) := by decide +kernel
theorem dX5_put_19 : decode cX5_put 19 = .ok (.iastore, 1) := by decide +kernel
theorem dX5_put_20 : decode cX5_put 20 = .ok (.return_, 1) := by decide +kernel
theorem dX5_add_0 : decode cX5_add 0 = .ok (.iload_n 1, 1) := by decide +kernel
theorem dX5_add_1 : decode cX5_add 1 = .ok (.ifCond .lt 22, 3) := by decide +kernel
theorem dX5_add_4 : decode cX5_add 4 = .ok (.iload_n 1, 1) := by decide +kernel
theorem dX5_add_5 : decode cX5_add 5 = .ok (.aload_n 0, 1) := by decide +kernel
theorem dX5_add_6 : decode cX5_add 6 = .ok (.getfield 7, 3) := by decide +kernel
theorem dX5_add_9 : decode cX5_add 9 = .ok (.arraylength, 1) := by decide +kernel
theorem dX5_add_10 : decode cX5_add 10 = .ok (.if_icmp .ge 13, 3) := by decide +kernel
theorem dX5_add_13 : decode cX5_add 13 = .ok (.aload_n 0, 1) := by decide +kernel
theorem dX5_add_14 : decode cX5_add 14 = .ok (.getfield 7, 3) := by decide +kernel
theorem dX5_add_17 : decode cX5_add 17 = .ok (.iload_n 1, 1) := by decide +kernel
theorem dX5_add_18 : decode cX5_add 18 = .ok (.dup2, 1) := by decide +kernel
theorem dX5_add_19 : decode cX5_add 19 = .ok (.iaload, 1) := by decide +kernel
theorem dX5_add_20 : decode cX5_add 20 = .ok (.iload_n 2, 1) := by decide +kernel
theorem dX5_add_21 : decode cX5_add 21 = .ok (.iadd, 1) := by decide +kernel
theorem dX5_add_22 : decode cX5_add 22 = .ok (.iastore, 1) := by decide +kernel
theorem dX5_add_23 : decode cX5_add 23 = .ok (.return_, 1) := by decide +kernel
theorem dX5_fillWithZeros_0 : decode cX5_fillWithZeros 0 = .ok (.iconst 0, 1) := by decide +kernel
theorem dX5_fillWithZeros_1 : decode cX5_fillWithZeros 1 = .ok (.istore_n 1, 1) := by decide +kernel
theorem dX5_fillWithZeros_2 : decode cX5_fillWithZeros 2 = .ok (.iload_n 1, 1) := by decide +kernel
theorem dX5_fillWithZeros_3 : decode cX5_fillWithZeros 3 = .ok (.aload_n 0, 1) := by decide +kernel
theorem dX5_fillWithZeros_4 : decode cX5_fillWithZeros 4 = .ok (.getfield 7, 3) := by decide +kernel
theorem dX5_fillWithZeros_7 : decode cX5_fillWithZeros 7 = .ok (.arraylength, 1) := by decide +kernel
theorem dX5_fillWithZeros_8 : decode cX5_fillWithZeros 8 = .ok (.if_icmp .ge 16, 3) := by decide +kernel
theorem dX5_fillWithZeros_11 : decode cX5_fillWithZeros 11 = .ok (.aload_n 0, 1) := by decide +kernel
theorem dX5_fillWithZeros_12 : decode cX5_fillWithZeros 12 = .ok (.getfield 7, 3) := by decide +kernel
theorem dX5_fillWithZeros_15 : decode cX5_fillWithZeros 15 = .ok (.iload_n 1, 1) := by decide +kernel
theorem dX5_fillWithZeros_16 : decode cX5_fillWithZeros 16 = .ok (.iconst 0, 1) := by decide +kernel
theorem dX5_fillWithZeros_17 : decode cX5_fillWithZeros 17 = .ok (.iastore, 1) := by decide +kernel
theorem dX5_fillWithZeros_18 : decode cX5_fillWithZeros 18 = .ok (.iinc 1 1, 3) := by decide +kernel
theorem dX5_fillWithZeros_21 : decode cX5_fillWithZeros 21 = .ok (.goto (-19), 3) := by decide +kernel
theorem dX5_fillWithZeros_24 : decode cX5_fillWithZeros 24 = .ok (.return_, 1) := by decide +kernel
theorem dX5_removeAt_0 : decode cX5_removeAt 0 = .ok (.iload_n 1, 1) := by decide +kernel
theorem dX5_removeAt_1 : decode cX5_removeAt 1 = .ok (.iconst 1, 1) := by decide +kernel
theorem dX5_removeAt_2 : decode cX5_removeAt 2 = .ok (.iadd, 1) := by decide +kernel
theorem dX5_removeAt_3 : decode cX5_removeAt 3 = .ok (.istore_n 2, 1) := by decide +kernel
theorem dX5_removeAt_4 : decode cX5_removeAt 4 = .ok (.iload_n 2, 1) := by decide +kernel
theorem dX5_removeAt_5 : decode cX5_removeAt 5 = .ok (.iconst 1, 1) := by decide +kernel
theorem dX5_removeAt_6 : decode cX5_removeAt 6 = .ok (.if_icmp .lt 32, 3) := by decide +kernel
theorem dX5_removeAt_9 : decode cX5_removeAt 9 = .ok (.iload_n 2, 1) := by decide +kernel
theorem dX5_removeAt_10 : decode cX5_removeAt 10 = .ok (.aload_n 0, 1) := by decide +kernel
theorem dX5_removeAt_11 : decode cX5_removeAt 11 = .ok (.getfield 7, 3) := by decide +kernel
theorem dX5_removeAt_14 : decode cX5_removeAt 14 = .ok (.arraylength, 1) := by decide +kernel
theorem dX5_removeAt_15 : decode cX5_removeAt 15 = .ok (.if_icmp .ge 23, 3) := by decide +kernel
theorem dX5_removeAt_18 : decode cX5_removeAt 18 = .ok (.aload_n 0, 1) := by decide +kernel
theorem dX5_removeAt_19 : decode cX5_removeAt 19 = .ok (.getfield 7, 3) := by decide +kernel
theorem dX5_removeAt_22 : decode cX5_removeAt 22 = .ok (.iload_n 2, 1) := by decide +kernel
theorem dX5_removeAt_23 : decode cX5_removeAt 23 = .ok (.iconst 1, 1) := by decide +kernel
theorem dX5_removeAt_24 : decode cX5_removeAt 24 = .ok (.isub, 1) := by decide +kernel
theorem dX5_removeAt_25 : decode cX5_removeAt 25 = .ok (.aload_n 0, 1) := by decide +kernel
theorem dX5_removeAt_26 : decode cX5_removeAt 26 = .ok (.getfield 7, 3) := by decide +kernel
theorem dX5_removeAt_29 : decode cX5_removeAt 29 = .ok (.iload_n 2, 1) := by decide +kernel
theorem dX5_removeAt_30 : decode cX5_removeAt 30 = .ok (.iaload, 1) := by decide +kernel
theorem dX5_removeAt_31 : decode cX5_removeAt 31 = .ok (.iastore, 1) := by decide +kernel
theorem dX5_removeAt_32 : decode cX5_removeAt 32 = .ok (.iinc 2 1, 3) := by decide +kernel
theorem dX5_removeAt_35 : decode cX5_removeAt 35 = .ok (.goto (-31), 3) := by decide +kernel
theorem dX5_removeAt_38 : decode cX5_removeAt 38 = .ok (.return_, 1) := by decide +kernel
theorem dX5_copyFrom_0 : decode cX5_copyFrom 0 = .ok (.iconst 0, 1) := by decide +kernel
theorem dX5_copyFrom_1 : decode cX5_copyFrom 1 = .ok (.istore_n 2, 1) := by decide +kernel
theorem dX5_copyFrom_2 : decode cX5_copyFrom 2 = .ok (.iload_n 2, 1) := by decide +kernel
theorem dX5_copyFrom_3 : decode cX5_copyFrom 3 = .ok (.aload_n 0, 1) := by decide +kernel
theorem dX5_copyFrom_4 : decode cX5_copyFrom 4 = .ok (.getfield 7, 3) := by decide +kernel
theorem dX5_copyFrom_7 : decode cX5_copyFrom 7 = .ok (.arraylength, 1) := by decide +kernel
theorem dX5_copyFrom_8 : decode cX5_copyFrom 8 = .ok (.if_icmp .ge 20, 3) := by decide +kernel
theorem dX5_copyFrom_11 : decode cX5_copyFrom 11 = .ok (.aload_n 0, 1) := by decide +kernel
theorem dX5_copyFrom_12 : decode cX5_copyFrom 12 = .ok (.getfield 7, 3) := by decide +kernel
theorem dX5_copyFrom_15 : decode cX5_copyFrom 15 = .ok (.iload_n 2, 1) := by decide +kernel
theorem dX5_copyFrom_16 : decode cX5_copyFrom 16 = .ok (.aload_n 1, 1) := by decide +kernel
theorem dX5_copyFrom_17 : decode cX5_copyFrom 17 = .ok (.iload_n 2, 1) := by decide +kernel
theorem dX5_copyFrom_18 : decode cX5_copyFrom 18 = .ok (.invokevirtual 13, 3) := by decide +kernel
theorem dX5_copyFrom_21 : decode cX5_copyFrom 21 = .ok (.iastore, 1) := by decide +kernel
theorem dX5_copyFrom_22 : decode cX5_copyFrom 22 = .ok (.iinc 2 1, 3) := by decide +kernel
theorem dX5_copyFrom_25 : decode cX5_copyFrom 25 = .ok (.goto (-23), 3) := by decide +kernel
theorem dX5_copyFrom_28 : decode cX5_copyFrom 28 = .ok (.return_, 1) := by decide +kernel
theorem dX6_init_0 : decode cX6_init 0 = .ok (.aload_n 0, 1) := by decide +kernel
theorem dX6_init_1 : decode cX6_init 1 = .ok (.invokespecial 3, 3) := by decide +kernel
theorem dX6_init_4 : decode cX6_init 4 = .ok (.aload_n 0, 1) := by decide +kernel
theorem dX6_init_5 : decode cX6_init 5 = .ok (.new 9, 3) := by decide +kernel
theorem dX6_init_8 : decode cX6_init 8 = .ok (.dup, 1) := by decide +kernel
theorem dX6_init_9 : decode cX6_init 9 = .ok (.bipush 8, 2) := by decide +kernel
theorem dX6_init_11 : decode cX6_init 11 = .ok (.invokespecial 11, 3) := by decide +kernel
theorem dX6_init_14 : decode cX6_init 14 = .ok (.putfield 14, 3) := by decide +kernel
theorem dX6_init_17 : decode cX6_init 17 = .ok (.aload_n 0, 1) := by decide +kernel
theorem dX6_init_18 : decode cX6_init 18 = .ok (.new 9, 3) := by decide +kernel
theorem dX6_init_21 : decode cX6_init 21 = .ok (.dup, 1) := by decide +kernel
theorem dX6_init_22 : decode cX6_init 22 = .ok (.bipush 8, 2) := by decide +kernel
theorem dX6_init_24 : decode cX6_init 24 = .ok (.invokespecial 11, 3) := by decide +kernel
theorem dX6_init_27 : decode cX6_init 27 = .ok (.putfield 20, 3) := by decide +kernel
theorem dX6_init_30 : decode cX6_init 30 = .ok (.aload_n 0, 1) := by decide +kernel
theorem dX6_init_31 : decode cX6_init 31 = .ok (.new 9, 3) := by decide +kernel
theorem dX6_init_34 : decode cX6_init 34 = .ok (.dup, 1) := by decide +kernel
theorem dX6_init_35 : decode cX6_init 35 = .ok (.bipush 8, 2) := by decide +kernel
theorem dX6_init_37 : decode cX6_init 37 = .ok (.invokespecial 11, 3) := by decide +kernel
theorem dX6_init_40 : decode cX6_init 40 = .ok (.putfield 23, 3) := by decide +kernel
theorem dX6_init_43 : decode cX6_init 43 = .ok (.aload_n 0, 1) := by decide +kernel
theorem dX6_init_44 : decode cX6_init 44 = .ok (.new 9, 3) := by decide +kernel
theorem dX6_init_47 : decode cX6_init 47 = .ok (.dup, 1) := by decide +kernel
theorem dX6_init_48 : decode cX6_init 48 = .ok (.bipush 8, 2) := by decide +kernel
theorem dX6_init_50 : decode cX6_init 50 = .ok (.invokespecial 11, 3) := by decide +kernel
theorem dX6_init_53 : decode cX6_init 53 = .ok (.putfield 26, 3) := by decide +kernel
theorem dX6_init_56 : decode cX6_init 56 = .ok (.aload_n 0, 1) := by decide +kernel
theorem dX6_init_57 : decode cX6_init 57 = .ok (.new 9, 3) := by decide +kernel
theorem dX6_init_60 : decode cX6_init 60 = .ok (.dup, 1) := by decide +kernel
theorem dX6_init_61 : decode cX6_init 61 = .ok (.bipush 8, 2) := by decide +kernel
theorem dX6_init_63 : decode cX6_init 63 = .ok (.invokespecial 11, 3) := by decide +kernel
theorem dX6_init_66 : decode cX6_init 66 = .ok (.putfield 29, 3) := by decide +kernel
theorem dX6_init_69 : decode cX6_init 69 = .ok (.aload_n 0, 1) := by decide +kernel
theorem dX6_init_70 : decode cX6_init 70 = .ok (.new 9, 3) := by decide +kernel
theorem dX6_init_73 : decode cX6_init 73 = .ok (.dup, 1) := by decide +kernel
theorem dX6_init_74 : decode cX6_init 74 = .ok (.bipush 8, 2) := by decide +kernel
theorem dX6_init_76 : decode cX6_init 76 = .ok (.invokespecial 11, 3) := by decide +kernel
theorem dX6_init_79 : decode cX6_init 79 = .ok (.putfield 32, 3) := by decide +kernel
theorem dX6_init_82 : decode cX6_init 82 = .ok (.aload_n 0, 1) := by decide +kernel
theorem dX6_init_83 : decode cX6_init 83 = .ok (.new 9, 3) := by decide +kernel
theorem dX6_init_86 : decode cX6_init 86 = .ok (.dup, 1) := by decide +kernel
theorem dX6_init_87 : decode cX6_init 87 = .ok (.bipush 8, 2) := by decide +kernel
theorem dX6_init_89 : decode cX6_init 89 = .ok (.invokespecial 11, 3) := by decide +kernel
theorem dX6_init_92 : decode cX6_init 92 = .ok (.putfield 35, 3) := by decide +kernel
theorem dX6_init_95 : decode cX6_init 95 = .ok (.return_, 1) := by decide +kernel
theorem dX6_has_0 : decode cX6_has 0 = .ok (.iload_n 1, 1) := by decide +kernel
theorem dX6_has_1 : decode cX6_has 1 = .ok (.ifCond .lt 15, 3) := by decide +kernel
theorem dX6_has_4 : decode cX6_has 4 = .ok (.iload_n 1, 1) := by decide +kernel
theorem dX6_has_5 : decode cX6_has 5 = .ok (.aload_n 0, 1) := by decide +kernel
theorem dX6_has_6 : decode cX6_has 6 = .ok (.getfield 38, 3) := by decide +kernel
theorem dX6_has_9 : decode cX6_has 9 = .ok (.if_icmp .ge 7, 3) := by decide +kernel
theorem dX6_has_12 : decode cX6_has 12 = .ok (.iconst 1, 1) := by decide +kernel
theorem dX6_has_13 : decode cX6_has 13 = .ok (.goto 4, 3) := by decide +kernel
theorem dX6_has_16 : decode cX6_has 16 = .ok (.iconst 0, 1) := by decide +kernel
theorem dX6_has_17 : decode cX6_has 17 = .ok (.ireturn, 1) := by decide +kernel
theorem dX6_faultOfNumber_0 : decode cX6_faultOfNumber 0 = .ok (.aload_n 0, 1) := by decide +kernel
theorem dX6_faultOfNumber_1 : decode cX6_faultOfNumber 1 = .ok (.iload_n 1, 1) := by decide +kernel
theorem dX6_faultOfNumber_2 : decode cX6_faultOfNumber 2 = .ok (.invokevirtual 42, 3) := by decide +kernel
theorem dX6_faultOfNumber_5 : decode cX6_faultOfNumber 5 = .ok (.ifCond .eq 7, 3) := by decide +kernel
theorem dX6_faultOfNumber_8 : decode cX6_faultOfNumber 8 = .ok (.iconst 0, 1) := by decide +kernel
theorem dX6_faultOfNumber_9 : decode cX6_faultOfNumber 9 = .ok (.goto 4, 3) := by decide +kernel
theorem dX6_faultOfNumber_12 : decode cX6_faultOfNumber 12 = .ok (.iconst 1, 1) := by decide +kernel
theorem dX6_faultOfNumber_13 : decode cX6_faultOfNumber 13 = .ok (.ireturn, 1) := by decide +kernel
theorem dX6_join_0 : decode cX6_join 0 = .ok (.aload_n 0, 1) := by decide +kernel
theorem dX6_join_1 : decode cX6_join 1 = .ok (.getfield 38, 3) := by decide +kernel
theorem dX6_join_4 : decode cX6_join 4 = .ok (.istore_n 3, 1) := by decide +kernel
theorem dX6_join_5 : decode cX6_join 5 = .ok (.aload_n 0, 1) := by decide +kernel
theorem dX6_join_6 : decode cX6_join 6 = .ok (.getfield 14, 3) := by decide +kernel
theorem dX6_join_9 : decode cX6_join 9 = .ok (.iload_n 3, 1) := by decide +kernel
theorem dX6_join_10 : decode cX6_join 10 = .ok (.iload_n 1, 1) := by decide +kernel
theorem dX6_join_11 : decode cX6_join 11 = .ok (.invokevirtual 46, 3) := by decide +kernel
theorem dX6_join_14 : decode cX6_join 14 = .ok (.aload_n 0, 1) := by decide +kernel
theorem dX6_join_15 : decode cX6_join 15 = .ok (.getfield 20, 3) := by decide +kernel
theorem dX6_join_18 : decode cX6_join 18 = .ok (.iload_n 3, 1) := by decide +kernel
theorem dX6_join_19 : decode cX6_join 19 = .ok (.iload_n 2, 1) := by decide +kernel
theorem dX6_join_20 : decode cX6_join 20 = .ok (.invokevirtual 46, 3) := by decide +kernel
theorem dX6_join_23 : decode cX6_join 23 = .ok (.aload_n 0, 1) := by decide +kernel
theorem dX6_join_24 : decode cX6_join 24 = .ok (.iload_n 3, 1) := by decide +kernel
theorem dX6_join_25 : decode cX6_join 25 = .ok (.iconst 0, 1) := by decide +kernel
theorem dX6_join_26 : decode cX6_join 26 = .ok (.iconst 0, 1) := by decide +kernel
theorem dX6_join_27 : decode cX6_join 27 = .ok (.invokevirtual 50, 3) := by decide +kernel
theorem dX6_join_30 : decode cX6_join 30 = .ok (.aload_n 0, 1) := by decide +kernel
theorem dX6_join_31 : decode cX6_join 31 = .ok (.getfield 29, 3) := by decide +kernel
theorem dX6_join_34 : decode cX6_join 34 = .ok (.iload_n 3, 1) := by decide +kernel
theorem dX6_join_35 : decode cX6_join 35 = .ok (.iconst 0, 1) := by decide +kernel
theorem dX6_join_36 : decode cX6_join 36 = .ok (.invokevirtual 46, 3) := by decide +kernel
theorem dX6_join_39 : decode cX6_join 39 = .ok (.aload_n 0, 1) := by decide +kernel
theorem dX6_join_40 : decode cX6_join 40 = .ok (.getfield 32, 3) := by decide +kernel
theorem dX6_join_43 : decode cX6_join 43 = .ok (.iload_n 3, 1) := by decide +kernel
theorem dX6_join_44 : decode cX6_join 44 = .ok (.iconst 0, 1) := by decide +kernel
theorem dX6_join_45 : decode cX6_join 45 = .ok (.invokevirtual 46, 3) := by decide +kernel
theorem dX6_join_48 : decode cX6_join 48 = .ok (.aload_n 0, 1) := by decide +kernel
theorem dX6_join_49 : decode cX6_join 49 = .ok (.getfield 35, 3) := by decide +kernel
theorem dX6_join_52 : decode cX6_join 52 = .ok (.iload_n 3, 1) := by decide +kernel
theorem dX6_join_53 : decode cX6_join 53 = .ok (.iconst 0, 1) := by decide +kernel
theorem dX6_join_54 : decode cX6_join 54 = .ok (.invokevirtual 46, 3) := by decide +kernel
theorem dX6_join_57 : decode cX6_join 57 = .ok (.aload_n 0, 1) := by decide +kernel
theorem dX6_join_58 : decode cX6_join 58 = .ok (.dup, 1) := by decide +kernel
theorem dX6_join_59 : decode cX6_join 59 = .ok (.getfield 38, 3) := by decide +kernel
theorem dX6_join_62 : decode cX6_join 62 = .ok (.iconst 1, 1) := by decide +kernel
theorem dX6_join_63 : decode cX6_join 63 = .ok (.iadd, 1) := by decide +kernel
theorem dX6_join_64 : decode cX6_join 64 = .ok (.putfield 38, 3) := by decide +kernel
theorem dX6_join_67 : decode cX6_join 67 = .ok (.iload_n 3, 1) := by decide +kernel
theorem dX6_join_68 : decode cX6_join 68 = .ok (.ireturn, 1) := by decide +kernel
theorem dX6_shadeBy_0 : decode cX6_shadeBy 0 = .ok (.aload_n 0, 1) := by decide +kernel
theorem dX6_shadeBy_1 : decode cX6_shadeBy 1 = .ok (.getfield 23, 3) := by decide +kernel
theorem dX6_shadeBy_4 : decode cX6_shadeBy 4 = .ok (.iload_n 1, 1) := by decide +kernel
theorem dX6_shadeBy_5 : decode cX6_shadeBy 5 = .ok (.iload_n 2, 1) := by decide +kernel
theorem dX6_shadeBy_6 : decode cX6_shadeBy 6 = .ok (.invokevirtual 46, 3) := by decide +kernel
theorem dX6_shadeBy_9 : decode cX6_shadeBy 9 = .ok (.aload_n 0, 1) := by decide +kernel
theorem dX6_shadeBy_10 : decode cX6_shadeBy 10 = .ok (.getfield 26, 3) := by decide +kernel
theorem dX6_shadeBy_13 : decode cX6_shadeBy 13 = .ok (.iload_n 1, 1) := by decide +kernel
theorem dX6_shadeBy_14 : decode cX6_shadeBy 14 = .ok (.iload_n 3, 1) := by decide +kernel
theorem dX6_shadeBy_15 : decode cX6_shadeBy 15 = .ok (.invokevirtual 46, 3) := by decide +kernel
theorem dX6_shadeBy_18 : decode cX6_shadeBy 18 = .ok (.return_, 1) := by decide +kernel
theorem dX6_bidOf_0 : decode cX6_bidOf 0 = .ok (.aload_n 0, 1) := by decide +kernel
theorem dX6_bidOf_1 : decode cX6_bidOf 1 = .ok (.iload_n 1, 1) := by decide +kernel
theorem dX6_bidOf_2 : decode cX6_bidOf 2 = .ok (.aload_n 0, 1) := by decide +kernel
theorem dX6_bidOf_3 : decode cX6_bidOf 3 = .ok (.iload_n 1, 1) := by decide +kernel
theorem dX6_bidOf_4 : decode cX6_bidOf 4 = .ok (.invokevirtual 54, 3) := by decide +kernel
theorem dX6_bidOf_7 : decode cX6_bidOf 7 = .ok (.invokevirtual 58, 3) := by decide +kernel
theorem dX6_bidOf_10 : decode cX6_bidOf 10 = .ok (.ireturn, 1) := by decide +kernel
theorem dX6_bidWith_0 : decode cX6_bidWith 0 = .ok (.aload_n 0, 1) := by decide +kernel
theorem dX6_bidWith_1 : decode cX6_bidWith 1 = .ok (.getfield 14, 3) := by decide +kernel
theorem dX6_bidWith_4 : decode cX6_bidWith 4 = .ok (.iload_n 1, 1) := by decide +kernel
theorem dX6_bidWith_5 : decode cX6_bidWith 5 = .ok (.invokevirtual 62, 3) := by decide +kernel
theorem dX6_bidWith_8 : decode cX6_bidWith 8 = .ok (.ifCond .ne 18, 3) := by decide +kernel
theorem dX6_bidWith_11 : decode cX6_bidWith 11 = .ok (.iconst 1, 1) := by decide +kernel
theorem dX6_bidWith_12 : decode cX6_bidWith 12 = .ok (.aload_n 0, 1) := by decide +kernel
theorem dX6_bidWith_13 : decode cX6_bidWith 13 = .ok (.getfield 20, 3) := by decide +kernel
theorem dX6_bidWith_16 : decode cX6_bidWith 16 = .ok (.iload_n 1, 1) := by decide +kernel
theorem dX6_bidWith_17 : decode cX6_bidWith 17 = .ok (.invokevirtual 62, 3) := by decide +kernel
theorem dX6_bidWith_20 : decode cX6_bidWith 20 = .ok (.iload_n 2, 1) := by decide +kernel
theorem dX6_bidWith_21 : decode cX6_bidWith 21 = .ok (.isub, 1) := by decide +kernel
theorem dX6_bidWith_22 : decode cX6_bidWith 22 = .ok (.invokestatic 65, 3) := by decide +kernel
theorem dX6_bidWith_25 : decode cX6_bidWith 25 = .ok (.ireturn, 1) := by decide +kernel
theorem dX6_bidWith_26 : decode cX6_bidWith 26 = .ok (.bipush 120, 2) := by decide +kernel
theorem dX6_bidWith_28 : decode cX6_bidWith 28 = .ok (.aload_n 0, 1) := by decide +kernel
theorem dX6_bidWith_29 : decode cX6_bidWith 29 = .ok (.getfield 20, 3) := by decide +kernel
theorem dX6_bidWith_32 : decode cX6_bidWith 32 = .ok (.iload_n 1, 1) := by decide +kernel
theorem dX6_bidWith_33 : decode cX6_bidWith 33 = .ok (.invokevirtual 62, 3) := by decide +kernel
theorem dX6_bidWith_36 : decode cX6_bidWith 36 = .ok (.iload_n 2, 1) := by decide +kernel
theorem dX6_bidWith_37 : decode cX6_bidWith 37 = .ok (.iadd, 1) := by decide +kernel
theorem dX6_bidWith_38 : decode cX6_bidWith 38 = .ok (.invokestatic 70, 3) := by decide +kernel
theorem dX6_bidWith_41 : decode cX6_bidWith 41 = .ok (.ireturn, 1) := by decide +kernel
theorem dX6_gainPerUnit_0 : decode cX6_gainPerUnit 0 = .ok (.aload_n 0, 1) := by decide +kernel
theorem dX6_gainPerUnit_1 : decode cX6_gainPerUnit 1 = .ok (.getfield 14, 3) := by decide +kernel
theorem dX6_gainPerUnit_4 : decode cX6_gainPerUnit 4 = .ok (.iload_n 1, 1) := by decide +kernel
theorem dX6_gainPerUnit_5 : decode cX6_gainPerUnit 5 = .ok (.invokevirtual 62, 3) := by decide +kernel
theorem dX6_gainPerUnit_8 : decode cX6_gainPerUnit 8 = .ok (.ifCond .ne 16, 3) := by decide +kernel
theorem dX6_gainPerUnit_11 : decode cX6_gainPerUnit 11 = .ok (.aload_n 0, 1) := by decide +kernel
theorem dX6_gainPerUnit_12 : decode cX6_gainPerUnit 12 = .ok (.getfield 20, 3) := by decide +kernel
theorem dX6_gainPerUnit_15 : decode cX6_gainPerUnit 15 = .ok (.iload_n 1, 1) := by decide +kernel
theorem dX6_gainPerUnit_16 : decode cX6_gainPerUnit 16 = .ok (.invokevirtual 62, 3) := by decide +kernel
theorem dX6_gainPerUnit_19 : decode cX6_gainPerUnit 19 = .ok (.iload_n 2, 1) := by decide +kernel
theorem dX6_gainPerUnit_20 : decode cX6_gainPerUnit 20 = .ok (.isub, 1) := by decide +kernel
theorem dX6_gainPerUnit_21 : decode cX6_gainPerUnit 21 = .ok (.goto 13, 3) := by decide +kernel
theorem dX6_gainPerUnit_24 : decode cX6_gainPerUnit 24 = .ok (.iload_n 2, 1) := by decide +kernel
theorem dX6_gainPerUnit_25 : decode cX6_gainPerUnit 25 = .ok (.aload_n 0, 1) := by decide +kernel
theorem dX6_gainPerUnit_26 : decode cX6_gainPerUnit 26 = .ok (.getfield 20, 3) := by decide +kernel
theorem dX6_gainPerUnit_29 : decode cX6_gainPerUnit 29 = .ok (.iload_n 1, 1) := by decide +kernel
theorem dX6_gainPerUnit_30 : decode cX6_gainPerUnit 30 = .ok (.invokevirtual 62, 3) := by decide +kernel
theorem dX6_gainPerUnit_33 : decode cX6_gainPerUnit 33 = .ok (.isub, 1) := by decide +kernel
theorem dX6_gainPerUnit_34 : decode cX6_gainPerUnit 34 = .ok (.ireturn, 1) := by decide +kernel
theorem dX6_book_0 : decode cX6_book 0 = .ok (.aload_n 0, 1) := by decide +kernel
theorem dX6_book_1 : decode cX6_book 1 = .ok (.getfield 29, 3) := by decide +kernel
theorem dX6_book_4 : decode cX6_book 4 = .ok (.iload_n 1, 1) := by decide +kernel
theorem dX6_book_5 : decode cX6_book 5 = .ok (.iload_n 2, 1) := by decide +kernel
theorem dX6_book_6 : decode cX6_book 6 = .ok (.invokevirtual 73, 3) := by decide +kernel
theorem dX6_book_9 : decode cX6_book 9 = .ok (.aload_n 0, 1) := by decide +kernel
theorem dX6_book_10 : decode cX6_book 10 = .ok (.getfield 32, 3) := by decide +kernel
theorem dX6_book_13 : decode cX6_book 13 = .ok (.iload_n 1, 1) := by decide +kernel
theorem dX6_book_14 : decode cX6_book 14 = .ok (.aload_n 0, 1) := by decide +kernel
theorem dX6_book_15 : decode cX6_book 15 = .ok (.iload_n 1, 1) := by decide +kernel
theorem dX6_book_16 : decode cX6_book 16 = .ok (.iload_n 3, 1) := by decide +kernel
theorem dX6_book_17 : decode cX6_book 17 = .ok (.invokevirtual 76, 3) := by decide +kernel
theorem dX6_book_20 : decode cX6_book 20 = .ok (.iload_n 2, 1) := by decide +kernel
theorem dX6_book_21 : decode cX6_book 21 = .ok (.imul, 1) := by decide +kernel
theorem dX6_book_22 : decode cX6_book 22 = .ok (.invokevirtual 73, 3) := by decide +kernel
theorem dX6_book_25 : decode cX6_book 25 = .ok (.aload_n 0, 1) := by decide +kernel
theorem dX6_book_26 : decode cX6_book 26 = .ok (.getfield 35, 3) := by decide +kernel
theorem dX6_book_29 : decode cX6_book 29 = .ok (.iload_n 1, 1) := by decide +kernel
theorem dX6_book_30 : decode cX6_book 30 = .ok (.aload_n 0, 1) := by decide +kernel
theorem dX6_book_31 : decode cX6_book 31 = .ok (.getfield 14, 3) := by decide +kernel
theorem dX6_book_34 : decode cX6_book 34 = .ok (.iload_n 1, 1) := by decide +kernel
theorem dX6_book_35 : decode cX6_book 35 = .ok (.invokevirtual 62, 3) := by decide +kernel
theorem dX6_book_38 : decode cX6_book 38 = .ok (.ifCond .ne 8, 3) := by decide +kernel
theorem dX6_book_41 : decode cX6_book 41 = .ok (.iload_n 3, 1) := by decide +kernel
theorem dX6_book_42 : decode cX6_book 42 = .ok (.ineg, 1) := by decide +kernel
theorem dX6_book_43 : decode cX6_book 43 = .ok (.goto 4, 3) := by decide +kernel
theorem dX6_book_46 : decode cX6_book 46 = .ok (.iload_n 3, 1) := by decide +kernel
theorem dX6_book_47 : decode cX6_book 47 = .ok (.iload_n 2, 1) := by decide +kernel
theorem dX6_book_48 : decode cX6_book 48 = .ok (.imul, 1) := by decide +kernel
theorem dX6_book_49 : decode cX6_book 49 = .ok (.invokevirtual 73, 3) := by decide +kernel
theorem dX6_book_52 : decode cX6_book 52 = .ok (.return_, 1) := by decide +kernel
theorem dX6_learn_0 : decode cX6_learn 0 = .ok (.aload_n 0, 1) := by decide +kernel
theorem dX6_learn_1 : decode cX6_learn 1 = .ok (.getfield 23, 3) := by decide +kernel
theorem dX6_learn_4 : decode cX6_learn 4 = .ok (.iload_n 1, 1) := by decide +kernel
theorem dX6_learn_5 : decode cX6_learn 5 = .ok (.invokevirtual 62, 3) := by decide +kernel
theorem dX6_learn_8 : decode cX6_learn 8 = .ok (.iconst 3, 1) := by decide +kernel
theorem dX6_learn_9 : decode cX6_learn 9 = .ok (.if_icmp .ne 7, 3) := by decide +kernel
theorem dX6_learn_12 : decode cX6_learn 12 = .ok (.iload_n 2, 1) := by decide +kernel
theorem dX6_learn_13 : decode cX6_learn 13 = .ok (.ifCond .ne 4, 3) := by decide +kernel
theorem dX6_learn_16 : decode cX6_learn 16 = .ok (.return_, 1) := by decide +kernel
theorem dX6_learn_17 : decode cX6_learn 17 = .ok (.iload_n 3, 1) := by decide +kernel
theorem dX6_learn_18 : decode cX6_learn 18 = .ok (.iload_n 2, 1) := by decide +kernel
theorem dX6_learn_19 : decode cX6_learn 19 = .ok (.if_icmp .ne 29, 3) := by decide +kernel
theorem dX6_learn_22 : decode cX6_learn 22 = .ok (.aload_n 0, 1) := by decide +kernel
theorem dX6_learn_23 : decode cX6_learn 23 = .ok (.getfield 26, 3) := by decide +kernel
theorem dX6_learn_26 : decode cX6_learn 26 = .ok (.iload_n 1, 1) := by decide +kernel
theorem dX6_learn_27 : decode cX6_learn 27 = .ok (.bipush 50, 2) := by decide +kernel
theorem dX6_learn_29 : decode cX6_learn 29 = .ok (.aload_n 0, 1) := by decide +kernel
theorem dX6_learn_30 : decode cX6_learn 30 = .ok (.getfield 26, 3) := by decide +kernel
theorem dX6_learn_33 : decode cX6_learn 33 = .ok (.iload_n 1, 1) := by decide +kernel
theorem dX6_learn_34 : decode cX6_learn 34 = .ok (.invokevirtual 62, 3) := by decide +kernel
theorem dX6_learn_37 : decode cX6_learn 37 = .ok (.iconst 1, 1) := by decide +kernel
theorem dX6_learn_38 : decode cX6_learn 38 = .ok (.iadd, 1) := by decide +kernel
theorem dX6_learn_39 : decode cX6_learn 39 = .ok (.invokestatic 70, 3) := by decide +kernel
theorem dX6_learn_42 : decode cX6_learn 42 = .ok (.invokevirtual 46, 3) := by decide +kernel
theorem dX6_learn_45 : decode cX6_learn 45 = .ok (.goto 29, 3) := by decide +kernel
theorem dX6_learn_48 : decode cX6_learn 48 = .ok (.iload_n 3, 1) := by decide +kernel
theorem dX6_learn_49 : decode cX6_learn 49 = .ok (.ifCond .ne 25, 3) := by decide +kernel
theorem dX6_learn_52 : decode cX6_learn 52 = .ok (.aload_n 0, 1) := by decide +kernel
theorem dX6_learn_53 : decode cX6_learn 53 = .ok (.getfield 26, 3) := by decide +kernel
theorem dX6_learn_56 : decode cX6_learn 56 = .ok (.iload_n 1, 1) := by decide +kernel
theorem dX6_learn_57 : decode cX6_learn 57 = .ok (.iconst 0, 1) := by decide +kernel
theorem dX6_learn_58 : decode cX6_learn 58 = .ok (.aload_n 0, 1) := by decide +kernel
theorem dX6_learn_59 : decode cX6_learn 59 = .ok (.getfield 26, 3) := by decide +kernel
theorem dX6_learn_62 : decode cX6_learn 62 = .ok (.iload_n 1, 1) := by decide +kernel
theorem dX6_learn_63 : decode cX6_learn 63 = .ok (.invokevirtual 62, 3) := by decide +kernel
theorem dX6_learn_66 : decode cX6_learn 66 = .ok (.iconst 1, 1) := by decide +kernel
theorem dX6_learn_67 : decode cX6_learn 67 = .ok (.isub, 1) := by decide +kernel
theorem dX6_learn_68 : decode cX6_learn 68 = .ok (.invokestatic 65, 3) := by decide +kernel
theorem dX6_learn_71 : decode cX6_learn 71 = .ok (.invokevirtual 46, 3) := by decide +kernel
theorem dX6_learn_74 : decode cX6_learn 74 = .ok (.return_, 1) := by decide +kernel
theorem dX6_copyFrom_0 : decode cX6_copyFrom 0 = .ok (.aload_n 0, 1) := by decide +kernel
theorem dX6_copyFrom_1 : decode cX6_copyFrom 1 = .ok (.aload_n 1, 1) := by decide +kernel
theorem dX6_copyFrom_2 : decode cX6_copyFrom 2 = .ok (.getfield 38, 3) := by decide +kernel
theorem dX6_copyFrom_5 : decode cX6_copyFrom 5 = .ok (.putfield 38, 3) := by decide +kernel
theorem dX6_copyFrom_8 : decode cX6_copyFrom 8 = .ok (.aload_n 0, 1) := by decide +kernel
theorem dX6_copyFrom_9 : decode cX6_copyFrom 9 = .ok (.getfield 14, 3) := by decide +kernel
theorem dX6_copyFrom_12 : decode cX6_copyFrom 12 = .ok (.aload_n 1, 1) := by decide +kernel
theorem dX6_copyFrom_13 : decode cX6_copyFrom 13 = .ok (.getfield 14, 3) := by decide +kernel
theorem dX6_copyFrom_16 : decode cX6_copyFrom 16 = .ok (.invokevirtual 79, 3) := by decide +kernel
theorem dX6_copyFrom_19 : decode cX6_copyFrom 19 = .ok (.aload_n 0, 1) := by decide +kernel
theorem dX6_copyFrom_20 : decode cX6_copyFrom 20 = .ok (.getfield 20, 3) := by decide +kernel
theorem dX6_copyFrom_23 : decode cX6_copyFrom 23 = .ok (.aload_n 1, 1) := by decide +kernel
theorem dX6_copyFrom_24 : decode cX6_copyFrom 24 = .ok (.getfield 20, 3) := by decide +kernel
theorem dX6_copyFrom_27 : decode cX6_copyFrom 27 = .ok (.invokevirtual 79, 3) := by decide +kernel
theorem dX6_copyFrom_30 : decode cX6_copyFrom 30 = .ok (.aload_n 0, 1) := by decide +kernel
theorem dX6_copyFrom_31 : decode cX6_copyFrom 31 = .ok (.getfield 23, 3) := by decide +kernel
theorem dX6_copyFrom_34 : decode cX6_copyFrom 34 = .ok (.aload_n 1, 1) := by decide +kernel
theorem dX6_copyFrom_35 : decode cX6_copyFrom 35 = .ok (.getfield 23, 3) := by decide +kernel
theorem dX6_copyFrom_38 : decode cX6_copyFrom 38 = .ok (.invokevirtual 79, 3) := by decide +kernel
theorem dX6_copyFrom_41 : decode cX6_copyFrom 41 = .ok (.aload_n 0, 1) := by decide +kernel
theorem dX6_copyFrom_42 : decode cX6_copyFrom 42 = .ok (.getfield 26, 3) := by decide +kernel
theorem dX6_copyFrom_45 : decode cX6_copyFrom 45 = .ok (.aload_n 1, 1) := by decide +kernel
theorem dX6_copyFrom_46 : decode cX6_copyFrom 46 = .ok (.getfield 26, 3) := by decide +kernel
theorem dX6_copyFrom_49 : decode cX6_copyFrom 49 = .ok (.invokevirtual 79, 3) := by decide +kernel
theorem dX6_copyFrom_52 : decode cX6_copyFrom 52 = .ok (.aload_n 0, 1) := by decide +kernel
theorem dX6_copyFrom_53 : decode cX6_copyFrom 53 = .ok (.getfield 29, 3) := by decide +kernel
theorem dX6_copyFrom_56 : decode cX6_copyFrom 56 = .ok (.aload_n 1, 1) := by decide +kernel
theorem dX6_copyFrom_57 : decode cX6_copyFrom 57 = .ok (.getfield 29, 3) := by decide +kernel
theorem dX6_copyFrom_60 : decode cX6_copyFrom 60 = .ok (.invokevirtual 79, 3) := by decide +kernel
theorem dX6_copyFrom_63 : decode cX6_copyFrom 63 = .ok (.aload_n 0, 1) := by decide +kernel
theorem dX6_copyFrom_64 : decode cX6_copyFrom 64 = .ok (.getfield 32, 3) := by decide +kernel
theorem dX6_copyFrom_67 : decode cX6_copyFrom 67 = .ok (.aload_n 1, 1) := by decide +kernel
theorem dX6_copyFrom_68 : decode cX6_copyFrom 68 = .ok (.getfield 32, 3) := by decide +kernel
theorem dX6_copyFrom_71 : decode cX6_copyFrom 71 = .ok (.invokevirtual 79, 3) := by decide +kernel
theorem dX6_copyFrom_74 : decode cX6_copyFrom 74 = .ok (.aload_n 0, 1) := by decide +kernel
theorem dX6_copyFrom_75 : decode cX6_copyFrom 75 = .ok (.getfield 35, 3) := by decide +kernel
theorem dX6_copyFrom_78 : decode cX6_copyFrom 78 = .ok (.aload_n 1, 1) := by decide +kernel
theorem dX6_copyFrom_79 : decode cX6_copyFrom 79 = .ok (.getfield 35, 3) := by decide +kernel
theorem dX6_copyFrom_82 : decode cX6_copyFrom 82 = .ok (.invokevirtual 79, 3) := by decide +kernel
theorem dX6_copyFrom_85 : decode cX6_copyFrom 85 = .ok (.return_, 1) := by decide +kernel
theorem dX6_shadeOf_0 : decode cX6_shadeOf 0 = .ok (.aload_n 0, 1) := by decide +kernel
theorem dX6_shadeOf_1 : decode cX6_shadeOf 1 = .ok (.getfield 23, 3) := by decide +kernel
theorem dX6_shadeOf_4 : decode cX6_shadeOf 4 = .ok (.iload_n 1, 1) := by decide +kernel
theorem dX6_shadeOf_5 : decode cX6_shadeOf 5 = .ok (.invokevirtual 62, 3) := by decide +kernel
theorem dX6_shadeOf_8 : decode cX6_shadeOf 8 = .ok (.tableswitch 58 1 3 #[28, 37, 28], 28) := by decide +kernel
theorem dX6_shadeOf_36 : decode cX6_shadeOf 36 = .ok (.aload_n 0, 1) := by decide +kernel
theorem dX6_shadeOf_37 : decode cX6_shadeOf 37 = .ok (.getfield 26, 3) := by decide +kernel
theorem dX6_shadeOf_40 : decode cX6_shadeOf 40 = .ok (.iload_n 1, 1) := by decide +kernel
theorem dX6_shadeOf_41 : decode cX6_shadeOf 41 = .ok (.invokevirtual 62, 3) := by decide +kernel
theorem dX6_shadeOf_44 : decode cX6_shadeOf 44 = .ok (.ireturn, 1) := by decide +kernel
theorem dX6_shadeOf_45 : decode cX6_shadeOf 45 = .ok (.aload_n 0, 1) := by decide +kernel
theorem dX6_shadeOf_46 : decode cX6_shadeOf 46 = .ok (.getfield 20, 3) := by decide +kernel
theorem dX6_shadeOf_49 : decode cX6_shadeOf 49 = .ok (.iload_n 1, 1) := by decide +kernel
theorem dX6_shadeOf_50 : decode cX6_shadeOf 50 = .ok (.invokevirtual 62, 3) := by decide +kernel
theorem dX6_shadeOf_53 : decode cX6_shadeOf 53 = .ok (.aload_n 0, 1) := by decide +kernel
theorem dX6_shadeOf_54 : decode cX6_shadeOf 54 = .ok (.getfield 26, 3) := by decide +kernel
theorem dX6_shadeOf_57 : decode cX6_shadeOf 57 = .ok (.iload_n 1, 1) := by decide +kernel
theorem dX6_shadeOf_58 : decode cX6_shadeOf 58 = .ok (.invokevirtual 62, 3) := by decide +kernel
theorem dX6_shadeOf_61 : decode cX6_shadeOf 61 = .ok (.imul, 1) := by decide +kernel
theorem dX6_shadeOf_62 : decode cX6_shadeOf 62 = .ok (.bipush 100, 2) := by decide +kernel
theorem dX6_shadeOf_64 : decode cX6_shadeOf 64 = .ok (.idiv, 1) := by decide +kernel
theorem dX6_shadeOf_65 : decode cX6_shadeOf 65 = .ok (.ireturn, 1) := by decide +kernel
theorem dX6_shadeOf_66 : decode cX6_shadeOf 66 = .ok (.iconst 0, 1) := by decide +kernel
theorem dX6_shadeOf_67 : decode cX6_shadeOf 67 = .ok (.ireturn, 1) := by decide +kernel
theorem dX7_init_0 : decode cX7_init 0 = .ok (.aload_n 0, 1) := by decide +kernel
theorem dX7_init_1 : decode cX7_init 1 = .ok (.invokespecial 3, 3) := by decide +kernel
theorem dX7_init_4 : decode cX7_init 4 = .ok (.aload_n 0, 1) := by decide +kernel
theorem dX7_init_5 : decode cX7_init 5 = .ok (.new 9, 3) := by decide +kernel
theorem dX7_init_8 : decode cX7_init 8 = .ok (.dup, 1) := by decide +kernel
theorem dX7_init_9 : decode cX7_init 9 = .ok (.bipush 20, 2) := by decide +kernel
theorem dX7_init_11 : decode cX7_init 11 = .ok (.invokespecial 11, 3) := by decide +kernel
theorem dX7_init_14 : decode cX7_init 14 = .ok (.putfield 14, 3) := by decide +kernel
theorem dX7_init_17 : decode cX7_init 17 = .ok (.aload_n 0, 1) := by decide +kernel
theorem dX7_init_18 : decode cX7_init 18 = .ok (.new 9, 3) := by decide +kernel
theorem dX7_init_21 : decode cX7_init 21 = .ok (.dup, 1) := by decide +kernel
theorem dX7_init_22 : decode cX7_init 22 = .ok (.bipush 20, 2) := by decide +kernel
theorem dX7_init_24 : decode cX7_init 24 = .ok (.invokespecial 11, 3) := by decide +kernel
theorem dX7_init_27 : decode cX7_init 27 = .ok (.putfield 20, 3) := by decide +kernel
theorem dX7_init_30 : decode cX7_init 30 = .ok (.aload_n 0, 1) := by decide +kernel
theorem dX7_init_31 : decode cX7_init 31 = .ok (.new 9, 3) := by decide +kernel
theorem dX7_init_34 : decode cX7_init 34 = .ok (.dup, 1) := by decide +kernel
theorem dX7_init_35 : decode cX7_init 35 = .ok (.bipush 20, 2) := by decide +kernel
theorem dX7_init_37 : decode cX7_init 37 = .ok (.invokespecial 11, 3) := by decide +kernel
theorem dX7_init_40 : decode cX7_init 40 = .ok (.putfield 23, 3) := by decide +kernel
theorem dX7_init_43 : decode cX7_init 43 = .ok (.aload_n 0, 1) := by decide +kernel
theorem dX7_init_44 : decode cX7_init 44 = .ok (.new 9, 3) := by decide +kernel
theorem dX7_init_47 : decode cX7_init 47 = .ok (.dup, 1) := by decide +kernel
theorem dX7_init_48 : decode cX7_init 48 = .ok (.bipush 20, 2) := by decide +kernel
theorem dX7_init_50 : decode cX7_init 50 = .ok (.invokespecial 11, 3) := by decide +kernel
theorem dX7_init_53 : decode cX7_init 53 = .ok (.putfield 26, 3) := by decide +kernel
theorem dX7_init_56 : decode cX7_init 56 = .ok (.aload_n 0, 1) := by decide +kernel
theorem dX7_init_57 : decode cX7_init 57 = .ok (.new 9, 3) := by decide +kernel
theorem dX7_init_60 : decode cX7_init 60 = .ok (.dup, 1) := by decide +kernel
theorem dX7_init_61 : decode cX7_init 61 = .ok (.bipush 20, 2) := by decide +kernel
theorem dX7_init_63 : decode cX7_init 63 = .ok (.invokespecial 11, 3) := by decide +kernel
theorem dX7_init_66 : decode cX7_init 66 = .ok (.putfield 29, 3) := by decide +kernel
theorem dX7_init_69 : decode cX7_init 69 = .ok (.return_, 1) := by decide +kernel
theorem dX7_append_0 : decode cX7_append 0 = .ok (.aload_n 0, 1) := by decide +kernel
theorem dX7_append_1 : decode cX7_append 1 = .ok (.getfield 14, 3) := by decide +kernel
theorem dX7_append_4 : decode cX7_append 4 = .ok (.aload_n 0, 1) := by decide +kernel
theorem dX7_append_5 : decode cX7_append 5 = .ok (.getfield 32, 3) := by decide +kernel
theorem dX7_append_8 : decode cX7_append 8 = .ok (.aload_n 1, 1) := by decide +kernel
theorem dX7_append_9 : decode cX7_append 9 = .ok (.getfield 36, 3) := by decide +kernel
theorem dX7_append_12 : decode cX7_append 12 = .ok (.iload_n 2, 1) := by decide +kernel
theorem dX7_append_13 : decode cX7_append 13 = .ok (.invokevirtual 41, 3) := by decide +kernel
theorem dX7_append_16 : decode cX7_append 16 = .ok (.invokevirtual 45, 3) := by decide +kernel
theorem dX7_append_19 : decode cX7_append 19 = .ok (.aload_n 0, 1) := by decide +kernel
theorem dX7_append_20 : decode cX7_append 20 = .ok (.getfield 20, 3) := by decide +kernel
theorem dX7_append_23 : decode cX7_append 23 = .ok (.aload_n 0, 1) := by decide +kernel
theorem dX7_append_24 : decode cX7_append 24 = .ok (.getfield 32, 3) := by decide +kernel
theorem dX7_append_27 : decode cX7_append 27 = .ok (.aload_n 1, 1) := by decide +kernel
theorem dX7_append_28 : decode cX7_append 28 = .ok (.getfield 36, 3) := by decide +kernel
theorem dX7_append_31 : decode cX7_append 31 = .ok (.iload_n 3, 1) := by decide +kernel
theorem dX7_append_32 : decode cX7_append 32 = .ok (.invokevirtual 41, 3) := by decide +kernel
theorem dX7_append_35 : decode cX7_append 35 = .ok (.invokevirtual 45, 3) := by decide +kernel
theorem dX7_append_38 : decode cX7_append 38 = .ok (.aload_n 0, 1) := by decide +kernel
theorem dX7_append_39 : decode cX7_append 39 = .ok (.getfield 23, 3) := by decide +kernel
theorem dX7_append_42 : decode cX7_append 42 = .ok (.aload_n 0, 1) := by decide +kernel
theorem dX7_append_43 : decode cX7_append 43 = .ok (.getfield 32, 3) := by decide +kernel
theorem dX7_append_46 : decode cX7_append 46 = .ok (.iload 4, 2) := by decide +kernel
theorem dX7_append_48 : decode cX7_append 48 = .ok (.invokevirtual 45, 3) := by decide +kernel
theorem dX7_append_51 : decode cX7_append 51 = .ok (.aload_n 0, 1) := by decide +kernel
theorem dX7_append_52 : decode cX7_append 52 = .ok (.getfield 26, 3) := by decide +kernel
theorem dX7_append_55 : decode cX7_append 55 = .ok (.aload_n 0, 1) := by decide +kernel
theorem dX7_append_56 : decode cX7_append 56 = .ok (.getfield 32, 3) := by decide +kernel
theorem dX7_append_59 : decode cX7_append 59 = .ok (.aload_n 1, 1) := by decide +kernel
theorem dX7_append_60 : decode cX7_append 60 = .ok (.getfield 49, 3) := by decide +kernel
theorem dX7_append_63 : decode cX7_append 63 = .ok (.iload_n 2, 1) := by decide +kernel
theorem dX7_append_64 : decode cX7_append 64 = .ok (.invokevirtual 41, 3) := by decide +kernel
theorem dX7_append_67 : decode cX7_append 67 = .ok (.invokevirtual 45, 3) := by decide +kernel
theorem dX7_append_70 : decode cX7_append 70 = .ok (.aload_n 0, 1) := by decide +kernel
theorem dX7_append_71 : decode cX7_append 71 = .ok (.getfield 29, 3) := by decide +kernel
theorem dX7_append_74 : decode cX7_append 74 = .ok (.aload_n 0, 1) := by decide +kernel
theorem dX7_append_75 : decode cX7_append 75 = .ok (.getfield 32, 3) := by decide +kernel
theorem dX7_append_78 : decode cX7_append 78 = .ok (.aload_n 1, 1) := by decide +kernel
theorem dX7_append_79 : decode cX7_append 79 = .ok (.getfield 49, 3) := by decide +kernel
theorem dX7_append_82 : decode cX7_append 82 = .ok (.iload_n 3, 1) := by decide +kernel
theorem dX7_append_83 : decode cX7_append 83 = .ok (.invokevirtual 41, 3) := by decide +kernel
theorem dX7_append_86 : decode cX7_append 86 = .ok (.invokevirtual 45, 3) := by decide +kernel
theorem dX7_append_89 : decode cX7_append 89 = .ok (.aload_n 0, 1) := by decide +kernel
theorem dX7_append_90 : decode cX7_append 90 = .ok (.dup, 1) := by decide +kernel
theorem dX7_append_91 : decode cX7_append 91 = .ok (.getfield 32, 3) := by decide +kernel
theorem dX7_append_94 : decode cX7_append 94 = .ok (.iconst 1, 1) := by decide +kernel
theorem dX7_append_95 : decode cX7_append 95 = .ok (.iadd, 1) := by decide +kernel
theorem dX7_append_96 : decode cX7_append 96 = .ok (.putfield 32, 3) := by decide +kernel
theorem dX7_append_99 : decode cX7_append 99 = .ok (.return_, 1) := by decide +kernel
theorem dX7_valueOf_0 : decode cX7_valueOf 0 = .ok (.iload_n 1, 1) := by decide +kernel
theorem dX7_valueOf_1 : decode cX7_valueOf 1 = .ok (.aload_n 0, 1) := by decide +kernel
theorem dX7_valueOf_2 : decode cX7_valueOf 2 = .ok (.getfield 32, 3) := by decide +kernel
theorem dX7_valueOf_5 : decode cX7_valueOf 5 = .ok (.if_icmp .lt 7, 3) := by decide +kernel
theorem dX7_valueOf_8 : decode cX7_valueOf 8 = .ok (.sipush (-10000), 3) := by decide +kernel
theorem dX7_valueOf_11 : decode cX7_valueOf 11 = .ok (.ireturn, 1) := by decide +kernel
theorem dX7_valueOf_12 : decode cX7_valueOf 12 = .ok (.iload_n 2, 1) := by decide +kernel
theorem dX7_valueOf_13 : decode cX7_valueOf 13 = .ok (.tableswitch 67 0 3 #[31, 40, 49, 58], 31) := by decide +kernel
theorem dX7_valueOf_44 : decode cX7_valueOf 44 = .ok (.aload_n 0, 1) := by decide +kernel
theorem dX7_valueOf_45 : decode cX7_valueOf 45 = .ok (.getfield 14, 3) := by decide +kernel
theorem dX7_valueOf_48 : decode cX7_valueOf 48 = .ok (.iload_n 1, 1) := by decide +kernel
theorem dX7_valueOf_49 : decode cX7_valueOf 49 = .ok (.invokevirtual 41, 3) := by decide +kernel
theorem dX7_valueOf_52 : decode cX7_valueOf 52 = .ok (.ireturn, 1) := by decide +kernel
theorem dX7_valueOf_53 : decode cX7_valueOf 53 = .ok (.aload_n 0, 1) := by decide +kernel
theorem dX7_valueOf_54 : decode cX7_valueOf 54 = .ok (.getfield 20, 3) := by decide +kernel
theorem dX7_valueOf_57 : decode cX7_valueOf 57 = .ok (.iload_n 1, 1) := by decide +kernel
theorem dX7_valueOf_58 : decode cX7_valueOf 58 = .ok (.invokevirtual 41, 3) := by decide +kernel
theorem dX7_valueOf_61 : decode cX7_valueOf 61 = .ok (.ireturn, 1) := by decide +kernel
theorem dX7_valueOf_62 : decode cX7_valueOf 62 = .ok (.aload_n 0, 1) := by decide +kernel
theorem dX7_valueOf_63 : decode cX7_valueOf 63 = .ok (.getfield 23, 3) := by decide +kernel
theorem dX7_valueOf_66 : decode cX7_valueOf 66 = .ok (.iload_n 1, 1) := by decide +kernel
theorem dX7_valueOf_67 : decode cX7_valueOf 67 = .ok (.invokevirtual 41, 3) := by decide +kernel
theorem dX7_valueOf_70 : decode cX7_valueOf 70 = .ok (.ireturn, 1) := by decide +kernel
theorem dX7_valueOf_71 : decode cX7_valueOf 71 = .ok (.aload_n 0, 1) := by decide +kernel
theorem dX7_valueOf_72 : decode cX7_valueOf 72 = .ok (.getfield 26, 3) := by decide +kernel
theorem dX7_valueOf_75 : decode cX7_valueOf 75 = .ok (.iload_n 1, 1) := by decide +kernel
theorem dX7_valueOf_76 : decode cX7_valueOf 76 = .ok (.invokevirtual 41, 3) := by decide +kernel
theorem dX7_valueOf_79 : decode cX7_valueOf 79 = .ok (.ireturn, 1) := by decide +kernel
theorem dX7_valueOf_80 : decode cX7_valueOf 80 = .ok (.aload_n 0, 1) := by decide +kernel
theorem dX7_valueOf_81 : decode cX7_valueOf 81 = .ok (.getfield 29, 3) := by decide +kernel
theorem dX7_valueOf_84 : decode cX7_valueOf 84 = .ok (.iload_n 1, 1) := by decide +kernel
theorem dX7_valueOf_85 : decode cX7_valueOf 85 = .ok (.invokevirtual 41, 3) := by decide +kernel
theorem dX7_valueOf_88 : decode cX7_valueOf 88 = .ok (.ireturn, 1) := by decide +kernel
theorem dX7_copyFrom_0 : decode cX7_copyFrom 0 = .ok (.aload_n 0, 1) := by decide +kernel
theorem dX7_copyFrom_1 : decode cX7_copyFrom 1 = .ok (.aload_n 1, 1) := by decide +kernel
theorem dX7_copyFrom_2 : decode cX7_copyFrom 2 = .ok (.getfield 32, 3) := by decide +kernel
theorem dX7_copyFrom_5 : decode cX7_copyFrom 5 = .ok (.putfield 32, 3) := by decide +kernel
theorem dX7_copyFrom_8 : decode cX7_copyFrom 8 = .ok (.aload_n 0, 1) := by decide +kernel
theorem dX7_copyFrom_9 : decode cX7_copyFrom 9 = .ok (.getfield 14, 3) := by decide +kernel
theorem dX7_copyFrom_12 : decode cX7_copyFrom 12 = .ok (.aload_n 1, 1) := by decide +kernel
theorem dX7_copyFrom_13 : decode cX7_copyFrom 13 = .ok (.getfield 14, 3) := by decide +kernel
theorem dX7_copyFrom_16 : decode cX7_copyFrom 16 = .ok (.invokevirtual 52, 3) := by decide +kernel
theorem dX7_copyFrom_19 : decode cX7_copyFrom 19 = .ok (.aload_n 0, 1) := by decide +kernel
theorem dX7_copyFrom_20 : decode cX7_copyFrom 20 = .ok (.getfield 20, 3) := by decide +kernel
theorem dX7_copyFrom_23 : decode cX7_copyFrom 23 = .ok (.aload_n 1, 1) := by decide +kernel
theorem dX7_copyFrom_24 : decode cX7_copyFrom 24 = .ok (.getfield 20, 3) := by decide +kernel
theorem dX7_copyFrom_27 : decode cX7_copyFrom 27 = .ok (.invokevirtual 52, 3) := by decide +kernel
theorem dX7_copyFrom_30 : decode cX7_copyFrom 30 = .ok (.aload_n 0, 1) := by decide +kernel
theorem dX7_copyFrom_31 : decode cX7_copyFrom 31 = .ok (.getfield 23, 3) := by decide +kernel
theorem dX7_copyFrom_34 : decode cX7_copyFrom 34 = .ok (.aload_n 1, 1) := by decide +kernel
theorem dX7_copyFrom_35 : decode cX7_copyFrom 35 = .ok (.getfield 23, 3) := by decide +kernel
theorem dX7_copyFrom_38 : decode cX7_copyFrom 38 = .ok (.invokevirtual 52, 3) := by decide +kernel
theorem dX7_copyFrom_41 : decode cX7_copyFrom 41 = .ok (.aload_n 0, 1) := by decide +kernel
theorem dX7_copyFrom_42 : decode cX7_copyFrom 42 = .ok (.getfield 26, 3) := by decide +kernel
theorem dX7_copyFrom_45 : decode cX7_copyFrom 45 = .ok (.aload_n 1, 1) := by decide +kernel
theorem dX7_copyFrom_46 : decode cX7_copyFrom 46 = .ok (.getfield 26, 3) := by decide +kernel
theorem dX7_copyFrom_49 : decode cX7_copyFrom 49 = .ok (.invokevirtual 52, 3) := by decide +kernel
theorem dX7_copyFrom_52 : decode cX7_copyFrom 52 = .ok (.aload_n 0, 1) := by decide +kernel
theorem dX7_copyFrom_53 : decode cX7_copyFrom 53 = .ok (.getfield 29, 3) := by decide +kernel
theorem dX7_copyFrom_56 : decode cX7_copyFrom 56 = .ok (.aload_n 1, 1) := by decide +kernel
theorem dX7_copyFrom_57 : decode cX7_copyFrom 57 = .ok (.getfield 29, 3) := by decide +kernel
theorem dX7_copyFrom_60 : decode cX7_copyFrom 60 = .ok (.invokevirtual 52, 3) := by decide +kernel
theorem dX7_copyFrom_63 : decode cX7_copyFrom 63 = .ok (.return_, 1) := by decide +kernel
theorem dX8_init_0 : decode cX8_init 0 = .ok (.aload_n 0, 1) := by decide +kernel
theorem dX8_init_1 : decode cX8_init 1 = .ok (.invokespecial 3, 3) := by decide +kernel
theorem dX8_init_4 : decode cX8_init 4 = .ok (.aload_n 0, 1) := by decide +kernel
theorem dX8_init_5 : decode cX8_init 5 = .ok (.iconst 4, 1) := by decide +kernel
theorem dX8_init_6 : decode cX8_init 6 = .ok (.anewarray 9, 3) := by decide +kernel
theorem dX8_init_9 : decode cX8_init 9 = .ok (.putfield 11, 3) := by decide +kernel
theorem dX8_init_12 : decode cX8_init 12 = .ok (.iconst 0, 1) := by decide +kernel
theorem dX8_init_13 : decode cX8_init 13 = .ok (.istore_n 1, 1) := by decide +kernel
theorem dX8_init_14 : decode cX8_init 14 = .ok (.iload_n 1, 1) := by decide +kernel
theorem dX8_init_15 : decode cX8_init 15 = .ok (.aload_n 0, 1) := by decide +kernel
theorem dX8_init_16 : decode cX8_init 16 = .ok (.getfield 11, 3) := by decide +kernel
theorem dX8_init_19 : decode cX8_init 19 = .ok (.arraylength, 1) := by decide +kernel
theorem dX8_init_20 : decode cX8_init 20 = .ok (.if_icmp .ge 22, 3) := by decide +kernel
theorem dX8_init_23 : decode cX8_init 23 = .ok (.aload_n 0, 1) := by decide +kernel
theorem dX8_init_24 : decode cX8_init 24 = .ok (.getfield 11, 3) := by decide +kernel
theorem dX8_init_27 : decode cX8_init 27 = .ok (.iload_n 1, 1) := by decide +kernel
theorem dX8_init_28 : decode cX8_init 28 = .ok (.new 9, 3) := by decide +kernel
theorem dX8_init_31 : decode cX8_init 31 = .ok (.dup, 1) := by decide +kernel
theorem dX8_init_32 : decode cX8_init 32 = .ok (.invokespecial 17, 3) := by decide +kernel
theorem dX8_init_35 : decode cX8_init 35 = .ok (.aastore, 1) := by decide +kernel
theorem dX8_init_36 : decode cX8_init 36 = .ok (.iinc 1 1, 3) := by decide +kernel
theorem dX8_init_39 : decode cX8_init 39 = .ok (.goto (-25), 3) := by decide +kernel
theorem dX8_init_42 : decode cX8_init 42 = .ok (.return_, 1) := by decide +kernel
theorem dX8_push_0 : decode cX8_push 0 = .ok (.aload_n 0, 1) := by decide +kernel
theorem dX8_push_1 : decode cX8_push 1 = .ok (.getfield 18, 3) := by decide +kernel
theorem dX8_push_4 : decode cX8_push 4 = .ok (.iconst 4, 1) := by decide +kernel
theorem dX8_push_5 : decode cX8_push 5 = .ok (.if_icmp .ne 27, 3) := by decide +kernel
theorem dX8_push_8 : decode cX8_push 8 = .ok (.aload_n 0, 1) := by decide +kernel
theorem dX8_push_9 : decode cX8_push 9 = .ok (.aload_n 0, 1) := by decide +kernel
theorem dX8_push_10 : decode cX8_push 10 = .ok (.getfield 22, 3) := by decide +kernel
theorem dX8_push_13 : decode cX8_push 13 = .ok (.iconst 1, 1) := by decide +kernel
theorem dX8_push_14 : decode cX8_push 14 = .ok (.iadd, 1) := by decide +kernel
theorem dX8_push_15 : decode cX8_push 15 = .ok (.iconst 4, 1) := by decide +kernel
theorem dX8_push_16 : decode cX8_push 16 = .ok (.invokestatic 25, 3) := by decide +kernel
theorem dX8_push_19 : decode cX8_push 19 = .ok (.putfield 22, 3) := by decide +kernel
theorem dX8_push_22 : decode cX8_push 22 = .ok (.aload_n 0, 1) := by decide +kernel
theorem dX8_push_23 : decode cX8_push 23 = .ok (.dup, 1) := by decide +kernel
theorem dX8_push_24 : decode cX8_push 24 = .ok (.getfield 18, 3) := by decide +kernel
theorem dX8_push_27 : decode cX8_push 27 = .ok (.iconst 1, 1) := by decide +kernel
theorem dX8_push_28 : decode cX8_push 28 = .ok (.isub, 1) := by decide +kernel
theorem dX8_push_29 : decode cX8_push 29 = .ok (.putfield 18, 3) := by decide +kernel
theorem dX8_push_32 : decode cX8_push 32 = .ok (.aload_n 0, 1) := by decide +kernel
theorem dX8_push_33 : decode cX8_push 33 = .ok (.aload_n 0, 1) := by decide +kernel
theorem dX8_push_34 : decode cX8_push 34 = .ok (.getfield 18, 3) := by decide +kernel
theorem dX8_push_37 : decode cX8_push 37 = .ok (.invokevirtual 31, 3) := by decide +kernel
theorem dX8_push_40 : decode cX8_push 40 = .ok (.astore_n 2, 1) := by decide +kernel
theorem dX8_push_41 : decode cX8_push 41 = .ok (.aload_n 2, 1) := by decide +kernel
theorem dX8_push_42 : decode cX8_push 42 = .ok (.ifnull 8, 3) := by decide +kernel
theorem dX8_push_45 : decode cX8_push 45 = .ok (.aload_n 2, 1) := by decide +kernel
theorem dX8_push_46 : decode cX8_push 46 = .ok (.aload_n 1, 1) := by decide +kernel
theorem dX8_push_47 : decode cX8_push 47 = .ok (.invokevirtual 35, 3) := by decide +kernel
theorem dX8_push_50 : decode cX8_push 50 = .ok (.aload_n 0, 1) := by decide +kernel
theorem dX8_push_51 : decode cX8_push 51 = .ok (.dup, 1) := by decide +kernel
theorem dX8_push_52 : decode cX8_push 52 = .ok (.getfield 18, 3) := by decide +kernel
theorem dX8_push_55 : decode cX8_push 55 = .ok (.iconst 1, 1) := by decide +kernel
theorem dX8_push_56 : decode cX8_push 56 = .ok (.iadd, 1) := by decide +kernel
theorem dX8_push_57 : decode cX8_push 57 = .ok (.putfield 18, 3) := by decide +kernel
theorem dX8_push_60 : decode cX8_push 60 = .ok (.return_, 1) := by decide +kernel
theorem dX8_pop_0 : decode cX8_pop 0 = .ok (.aload_n 0, 1) := by decide +kernel
theorem dX8_pop_1 : decode cX8_pop 1 = .ok (.getfield 18, 3) := by decide +kernel
theorem dX8_pop_4 : decode cX8_pop 4 = .ok (.ifCond .ne 4, 3) := by decide +kernel
theorem dX8_pop_7 : decode cX8_pop 7 = .ok (.return_, 1) := by decide +kernel
theorem dX8_pop_8 : decode cX8_pop 8 = .ok (.aload_n 0, 1) := by decide +kernel
theorem dX8_pop_9 : decode cX8_pop 9 = .ok (.dup, 1) := by decide +kernel
theorem dX8_pop_10 : decode cX8_pop 10 = .ok (.getfield 18, 3) := by decide +kernel
theorem dX8_pop_13 : decode cX8_pop 13 = .ok (.iconst 1, 1) := by decide +kernel
theorem dX8_pop_14 : decode cX8_pop 14 = .ok (.isub, 1) := by decide +kernel
theorem dX8_pop_15 : decode cX8_pop 15 = .ok (.putfield 18, 3) := by decide +kernel
theorem dX8_pop_18 : decode cX8_pop 18 = .ok (.aload_n 0, 1) := by decide +kernel
theorem dX8_pop_19 : decode cX8_pop 19 = .ok (.aload_n 0, 1) := by decide +kernel
theorem dX8_pop_20 : decode cX8_pop 20 = .ok (.getfield 18, 3) := by decide +kernel
theorem dX8_pop_23 : decode cX8_pop 23 = .ok (.invokevirtual 31, 3) := by decide +kernel
theorem dX8_pop_26 : decode cX8_pop 26 = .ok (.astore_n 2, 1) := by decide +kernel
theorem dX8_pop_27 : decode cX8_pop 27 = .ok (.aload_n 2, 1) := by decide +kernel
theorem dX8_pop_28 : decode cX8_pop 28 = .ok (.ifnull 8, 3) := by decide +kernel
theorem dX8_pop_31 : decode cX8_pop 31 = .ok (.aload_n 1, 1) := by decide +kernel
theorem dX8_pop_32 : decode cX8_pop 32 = .ok (.aload_n 2, 1) := by decide +kernel
theorem dX8_pop_33 : decode cX8_pop 33 = .ok (.invokevirtual 35, 3) := by decide +kernel
theorem dX8_pop_36 : decode cX8_pop 36 = .ok (.return_, 1) := by decide +kernel
theorem dX8_placeOf_0 : decode cX8_placeOf 0 = .ok (.aload_n 0, 1) := by decide +kernel
theorem dX8_placeOf_1 : decode cX8_placeOf 1 = .ok (.getfield 22, 3) := by decide +kernel
theorem dX8_placeOf_4 : decode cX8_placeOf 4 = .ok (.iload_n 1, 1) := by decide +kernel
theorem dX8_placeOf_5 : decode cX8_placeOf 5 = .ok (.iadd, 1) := by decide +kernel
theorem dX8_placeOf_6 : decode cX8_placeOf 6 = .ok (.iconst 4, 1) := by decide +kernel
theorem dX8_placeOf_7 : decode cX8_placeOf 7 = .ok (.invokestatic 25, 3) := by decide +kernel
theorem dX8_placeOf_10 : decode cX8_placeOf 10 = .ok (.istore_n 2, 1) := by decide +kernel
theorem dX8_placeOf_11 : decode cX8_placeOf 11 = .ok (.iload_n 2, 1) := by decide +kernel
theorem dX8_placeOf_12 : decode cX8_placeOf 12 = .ok (.ifCond .lt 21, 3) := by decide +kernel
theorem dX8_placeOf_15 : decode cX8_placeOf 15 = .ok (.iload_n 2, 1) := by decide +kernel
theorem dX8_placeOf_16 : decode cX8_placeOf 16 = .ok (.aload_n 0, 1) := by decide +kernel
theorem dX8_placeOf_17 : decode cX8_placeOf 17 = .ok (.getfield 11, 3) := by decide +kernel
theorem dX8_placeOf_20 : decode cX8_placeOf 20 = .ok (.arraylength, 1) := by decide +kernel
theorem dX8_placeOf_21 : decode cX8_placeOf 21 = .ok (.if_icmp .ge 12, 3) := by decide +kernel
theorem dX8_placeOf_24 : decode cX8_placeOf 24 = .ok (.aload_n 0, 1) := by decide +kernel
theorem dX8_placeOf_25 : decode cX8_placeOf 25 = .ok (.getfield 11, 3) := by decide +kernel
theorem dX8_placeOf_28 : decode cX8_placeOf 28 = .ok (.iload_n 2, 1) := by decide +kernel
theorem dX8_placeOf_29 : decode cX8_placeOf 29 = .ok (.aaload, 1) := by decide +kernel
theorem dX8_placeOf_30 : decode cX8_placeOf 30 = .ok (.goto 4, 3) := by decide +kernel
theorem dX8_placeOf_33 : decode cX8_placeOf 33 = .ok (.aconst_null, 1) := by decide +kernel
theorem dX8_placeOf_34 : decode cX8_placeOf 34 = .ok (.areturn, 1) := by decide +kernel
theorem dX9_of_0 : decode cX9_of 0 = .ok (.iconst 0, 1) := by decide +kernel
theorem dX9_of_1 : decode cX9_of 1 = .ok (.istore_n 3, 1) := by decide +kernel
theorem dX9_of_2 : decode cX9_of 2 = .ok (.iload_n 3, 1) := by decide +kernel
theorem dX9_of_3 : decode cX9_of 3 = .ok (.getstatic 55, 3) := by decide +kernel
theorem dX9_of_6 : decode cX9_of 6 = .ok (.arraylength, 1) := by decide +kernel
theorem dX9_of_7 : decode cX9_of 7 = .ok (.if_icmp .ge 35, 3) := by decide +kernel
theorem dX9_of_10 : decode cX9_of 10 = .ok (.getstatic 55, 3) := by decide +kernel
theorem dX9_of_13 : decode cX9_of 13 = .ok (.iload_n 3, 1) := by decide +kernel
theorem dX9_of_14 : decode cX9_of 14 = .ok (.aaload, 1) := by decide +kernel
theorem dX9_of_15 : decode cX9_of 15 = .ok (.astore 4, 2) := by decide +kernel
theorem dX9_of_17 : decode cX9_of 17 = .ok (.aload 4, 2) := by decide +kernel
theorem dX9_of_19 : decode cX9_of 19 = .ok (.ifnull 17, 3) := by decide +kernel
theorem dX9_of_22 : decode cX9_of 22 = .ok (.aload 4, 2) := by decide +kernel
theorem dX9_of_24 : decode cX9_of 24 = .ok (.aload_n 0, 1) := by decide +kernel
theorem dX9_of_25 : decode cX9_of 25 = .ok (.iload_n 1, 1) := by decide +kernel
theorem dX9_of_26 : decode cX9_of 26 = .ok (.iload_n 2, 1) := by decide +kernel
theorem dX9_of_27 : decode cX9_of 27 = .ok (.invokevirtual 58, 3) := by decide +kernel
theorem dX9_of_30 : decode cX9_of 30 = .ok (.ifCond .eq 6, 3) := by decide +kernel
theorem dX9_of_33 : decode cX9_of 33 = .ok (.aload 4, 2) := by decide +kernel
theorem dX9_of_35 : decode cX9_of 35 = .ok (.areturn, 1) := by decide +kernel
theorem dX9_of_36 : decode cX9_of 36 = .ok (.iinc 3 1, 3) := by decide +kernel
theorem dX9_of_39 : decode cX9_of 39 = .ok (.goto (-37), 3) := by decide +kernel
theorem dX9_of_42 : decode cX9_of 42 = .ok (.aconst_null, 1) := by decide +kernel
theorem dX9_of_43 : decode cX9_of 43 = .ok (.areturn, 1) := by decide +kernel
theorem dX9_stands_0 : decode cX9_stands 0 = .ok (.iload_n 3, 1) := by decide +kernel
theorem dX9_stands_1 : decode cX9_stands 1 = .ok (.aload_n 0, 1) := by decide +kernel
theorem dX9_stands_2 : decode cX9_stands 2 = .ok (.getfield 47, 3) := by decide +kernel
theorem dX9_stands_5 : decode cX9_stands 5 = .ok (.invokevirtual 62, 3) := by decide +kernel
theorem dX9_stands_8 : decode cX9_stands 8 = .ok (.if_icmp .eq 5, 3) := by decide +kernel
theorem dX9_stands_11 : decode cX9_stands 11 = .ok (.iconst 0, 1) := by decide +kernel
theorem dX9_stands_12 : decode cX9_stands 12 = .ok (.ireturn, 1) := by decide +kernel
theorem dX9_stands_13 : decode cX9_stands 13 = .ok (.iconst 0, 1) := by decide +kernel
theorem dX9_stands_14 : decode cX9_stands 14 = .ok (.istore 4, 2) := by decide +kernel
theorem dX9_stands_16 : decode cX9_stands 16 = .ok (.iload 4, 2) := by decide +kernel
theorem dX9_stands_18 : decode cX9_stands 18 = .ok (.aload_n 0, 1) := by decide +kernel
theorem dX9_stands_19 : decode cX9_stands 19 = .ok (.getfield 47, 3) := by decide +kernel
theorem dX9_stands_22 : decode cX9_stands 22 = .ok (.invokevirtual 62, 3) := by decide +kernel
theorem dX9_stands_25 : decode cX9_stands 25 = .ok (.if_icmp .ge 31, 3) := by decide +kernel
theorem dX9_stands_28 : decode cX9_stands 28 = .ok (.aload_n 1, 1) := by decide +kernel
theorem dX9_stands_29 : decode cX9_stands 29 = .ok (.iload_n 2, 1) := by decide +kernel
theorem dX9_stands_30 : decode cX9_stands 30 = .ok (.iload 4, 2) := by decide +kernel
theorem dX9_stands_32 : decode cX9_stands 32 = .ok (.iadd, 1) := by decide +kernel
theorem dX9_stands_33 : decode cX9_stands 33 = .ok (.invokevirtual 68, 3) := by decide +kernel
theorem dX9_stands_36 : decode cX9_stands 36 = .ok (.aload_n 0, 1) := by decide +kernel
theorem dX9_stands_37 : decode cX9_stands 37 = .ok (.getfield 47, 3) := by decide +kernel
theorem dX9_stands_40 : decode cX9_stands 40 = .ok (.iload 4, 2) := by decide +kernel
theorem dX9_stands_42 : decode cX9_stands 42 = .ok (.invokevirtual 74, 3) := by decide +kernel
theorem dX9_stands_45 : decode cX9_stands 45 = .ok (.if_icmp .eq 5, 3) := by decide +kernel
theorem dX9_stands_48 : decode cX9_stands 48 = .ok (.iconst 0, 1) := by decide +kernel
theorem dX9_stands_49 : decode cX9_stands 49 = .ok (.ireturn, 1) := by decide +kernel
theorem dX9_stands_50 : decode cX9_stands 50 = .ok (.iinc 4 1, 3) := by decide +kernel
theorem dX9_stands_53 : decode cX9_stands 53 = .ok (.goto (-37), 3) := by decide +kernel
theorem dX9_stands_56 : decode cX9_stands 56 = .ok (.iconst 1, 1) := by decide +kernel
theorem dX9_stands_57 : decode cX9_stands 57 = .ok (.ireturn, 1) := by decide +kernel
theorem dX10_init_0 : decode cX10_init 0 = .ok (.aload_n 0, 1) := by decide +kernel
theorem dX10_init_1 : decode cX10_init 1 = .ok (.invokespecial 1, 3) := by decide +kernel
theorem dX10_init_4 : decode cX10_init 4 = .ok (.aload_n 0, 1) := by decide +kernel
theorem dX10_init_5 : decode cX10_init 5 = .ok (.new 7, 3) := by decide +kernel
theorem dX10_init_8 : decode cX10_init 8 = .ok (.dup, 1) := by decide +kernel
theorem dX10_init_9 : decode cX10_init 9 = .ok (.invokespecial 9, 3) := by decide +kernel
theorem dX10_init_12 : decode cX10_init 12 = .ok (.putfield 10, 3) := by decide +kernel
theorem dX10_init_15 : decode cX10_init 15 = .ok (.aload_n 0, 1) := by decide +kernel
theorem dX10_init_16 : decode cX10_init 16 = .ok (.new 7, 3) := by decide +kernel
theorem dX10_init_19 : decode cX10_init 19 = .ok (.dup, 1) := by decide +kernel
theorem dX10_init_20 : decode cX10_init 20 = .ok (.invokespecial 9, 3) := by decide +kernel
theorem dX10_init_23 : decode cX10_init 23 = .ok (.putfield 16, 3) := by decide +kernel
theorem dX10_init_26 : decode cX10_init 26 = .ok (.aload_n 0, 1) := by decide +kernel
theorem dX10_init_27 : decode cX10_init 27 = .ok (.new 19, 3) := by decide +kernel
theorem dX10_init_30 : decode cX10_init 30 = .ok (.dup, 1) := by decide +kernel
theorem dX10_init_31 : decode cX10_init 31 = .ok (.invokespecial 21, 3) := by decide +kernel
theorem dX10_init_34 : decode cX10_init 34 = .ok (.putfield 22, 3) := by decide +kernel
theorem dX10_init_37 : decode cX10_init 37 = .ok (.aload_n 0, 1) := by decide +kernel
theorem dX10_init_38 : decode cX10_init 38 = .ok (.new 26, 3) := by decide +kernel
theorem dX10_init_41 : decode cX10_init 41 = .ok (.dup, 1) := by decide +kernel
theorem dX10_init_42 : decode cX10_init 42 = .ok (.invokespecial 28, 3) := by decide +kernel
theorem dX10_init_45 : decode cX10_init 45 = .ok (.putfield 29, 3) := by decide +kernel
theorem dX10_init_48 : decode cX10_init 48 = .ok (.aload_n 0, 1) := by decide +kernel
theorem dX10_init_49 : decode cX10_init 49 = .ok (.new 33, 3) := by decide +kernel
theorem dX10_init_52 : decode cX10_init 52 = .ok (.dup, 1) := by decide +kernel
theorem dX10_init_53 : decode cX10_init 53 = .ok (.invokespecial 35, 3) := by decide +kernel
theorem dX10_init_56 : decode cX10_init 56 = .ok (.putfield 36, 3) := by decide +kernel
theorem dX10_init_59 : decode cX10_init 59 = .ok (.return_, 1) := by decide +kernel
theorem dX10_addTrader_0 : decode cX10_addTrader 0 = .ok (.aload_n 0, 1) := by decide +kernel
theorem dX10_addTrader_1 : decode cX10_addTrader 1 = .ok (.getfield 10, 3) := by decide +kernel
theorem dX10_addTrader_4 : decode cX10_addTrader 4 = .ok (.iload_n 1, 1) := by decide +kernel
theorem dX10_addTrader_5 : decode cX10_addTrader 5 = .ok (.iload_n 2, 1) := by decide +kernel
theorem dX10_addTrader_6 : decode cX10_addTrader 6 = .ok (.invokevirtual 40, 3) := by decide +kernel
theorem dX10_addTrader_9 : decode cX10_addTrader 9 = .ok (.invokestatic 44, 3) := by decide +kernel
theorem dX10_addTrader_12 : decode cX10_addTrader 12 = .ok (.aload_n 0, 1) := by decide +kernel
theorem dX10_addTrader_13 : decode cX10_addTrader 13 = .ok (.getfield 29, 3) := by decide +kernel
theorem dX10_addTrader_16 : decode cX10_addTrader 16 = .ok (.aload_n 0, 1) := by decide +kernel
theorem dX10_addTrader_17 : decode cX10_addTrader 17 = .ok (.getfield 10, 3) := by decide +kernel
theorem dX10_addTrader_20 : decode cX10_addTrader 20 = .ok (.invokevirtual 48, 3) := by decide +kernel
theorem dX10_addTrader_23 : decode cX10_addTrader 23 = .ok (.aload_n 0, 1) := by decide +kernel
theorem dX10_addTrader_24 : decode cX10_addTrader 24 = .ok (.getfield 10, 3) := by decide +kernel
theorem dX10_addTrader_27 : decode cX10_addTrader 27 = .ok (.getfield 52, 3) := by decide +kernel
theorem dX10_addTrader_30 : decode cX10_addTrader 30 = .ok (.iload_n 1, 1) := by decide +kernel
theorem dX10_addTrader_31 : decode cX10_addTrader 31 = .ok (.iload_n 2, 1) := by decide +kernel
theorem dX10_addTrader_32 : decode cX10_addTrader 32 = .ok (.invokevirtual 56, 3) := by decide +kernel
theorem dX10_addTrader_35 : decode cX10_addTrader 35 = .ok (.ireturn, 1) := by decide +kernel
theorem dX10_setValue_0 : decode cX10_setValue 0 = .ok (.aload_n 0, 1) := by decide +kernel
theorem dX10_setValue_1 : decode cX10_setValue 1 = .ok (.getfield 10, 3) := by decide +kernel
theorem dX10_setValue_4 : decode cX10_setValue 4 = .ok (.iload_n 1, 1) := by decide +kernel
theorem dX10_setValue_5 : decode cX10_setValue 5 = .ok (.iload_n 2, 1) := by decide +kernel
theorem dX10_setValue_6 : decode cX10_setValue 6 = .ok (.invokevirtual 61, 3) := by decide +kernel
theorem dX10_setValue_9 : decode cX10_setValue 9 = .ok (.invokestatic 44, 3) := by decide +kernel
theorem dX10_setValue_12 : decode cX10_setValue 12 = .ok (.aload_n 0, 1) := by decide +kernel
theorem dX10_setValue_13 : decode cX10_setValue 13 = .ok (.getfield 29, 3) := by decide +kernel
theorem dX10_setValue_16 : decode cX10_setValue 16 = .ok (.aload_n 0, 1) := by decide +kernel
theorem dX10_setValue_17 : decode cX10_setValue 17 = .ok (.getfield 10, 3) := by decide +kernel
theorem dX10_setValue_20 : decode cX10_setValue 20 = .ok (.invokevirtual 48, 3) := by decide +kernel
theorem dX10_setValue_23 : decode cX10_setValue 23 = .ok (.aload_n 0, 1) := by decide +kernel
theorem dX10_setValue_24 : decode cX10_setValue 24 = .ok (.getfield 10, 3) := by decide +kernel
theorem dX10_setValue_27 : decode cX10_setValue 27 = .ok (.getfield 52, 3) := by decide +kernel
theorem dX10_setValue_30 : decode cX10_setValue 30 = .ok (.getfield 64, 3) := by decide +kernel
theorem dX10_setValue_33 : decode cX10_setValue 33 = .ok (.iload_n 1, 1) := by decide +kernel
theorem dX10_setValue_34 : decode cX10_setValue 34 = .ok (.invokevirtual 68, 3) := by decide +kernel
theorem dX10_setValue_37 : decode cX10_setValue 37 = .ok (.istore_n 3, 1) := by decide +kernel
theorem dX10_setValue_38 : decode cX10_setValue 38 = .ok (.aload_n 0, 1) := by decide +kernel
theorem dX10_setValue_39 : decode cX10_setValue 39 = .ok (.getfield 10, 3) := by decide +kernel
theorem dX10_setValue_42 : decode cX10_setValue 42 = .ok (.getfield 52, 3) := by decide +kernel
theorem dX10_setValue_45 : decode cX10_setValue 45 = .ok (.getfield 64, 3) := by decide +kernel
theorem dX10_setValue_48 : decode cX10_setValue 48 = .ok (.iload_n 1, 1) := by decide +kernel
theorem dX10_setValue_49 : decode cX10_setValue 49 = .ok (.iload_n 2, 1) := by decide +kernel
theorem dX10_setValue_50 : decode cX10_setValue 50 = .ok (.invokevirtual 74, 3) := by decide +kernel
theorem dX10_setValue_53 : decode cX10_setValue 53 = .ok (.iload_n 3, 1) := by decide +kernel
theorem dX10_setValue_54 : decode cX10_setValue 54 = .ok (.ireturn, 1) := by decide +kernel
theorem dX10_setShade_0 : decode cX10_setShade 0 = .ok (.aload_n 0, 1) := by decide +kernel
theorem dX10_setShade_1 : decode cX10_setShade 1 = .ok (.getfield 10, 3) := by decide +kernel
theorem dX10_setShade_4 : decode cX10_setShade 4 = .ok (.iload_n 1, 1) := by decide +kernel
theorem dX10_setShade_5 : decode cX10_setShade 5 = .ok (.iload_n 2, 1) := by decide +kernel
theorem dX10_setShade_6 : decode cX10_setShade 6 = .ok (.iload_n 3, 1) := by decide +kernel
theorem dX10_setShade_7 : decode cX10_setShade 7 = .ok (.invokevirtual 78, 3) := by decide +kernel
theorem dX10_setShade_10 : decode cX10_setShade 10 = .ok (.invokestatic 44, 3) := by decide +kernel
theorem dX10_setShade_13 : decode cX10_setShade 13 = .ok (.aload_n 0, 1) := by decide +kernel
theorem dX10_setShade_14 : decode cX10_setShade 14 = .ok (.getfield 29, 3) := by decide +kernel
theorem dX10_setShade_17 : decode cX10_setShade 17 = .ok (.aload_n 0, 1) := by decide +kernel
theorem dX10_setShade_18 : decode cX10_setShade 18 = .ok (.getfield 10, 3) := by decide +kernel
theorem dX10_setShade_21 : decode cX10_setShade 21 = .ok (.invokevirtual 48, 3) := by decide +kernel
theorem dX10_setShade_24 : decode cX10_setShade 24 = .ok (.aload_n 0, 1) := by decide +kernel
theorem dX10_setShade_25 : decode cX10_setShade 25 = .ok (.getfield 10, 3) := by decide +kernel
theorem dX10_setShade_28 : decode cX10_setShade 28 = .ok (.getfield 52, 3) := by decide +kernel
theorem dX10_setShade_31 : decode cX10_setShade 31 = .ok (.iload_n 1, 1) := by decide +kernel
theorem dX10_setShade_32 : decode cX10_setShade 32 = .ok (.iload_n 2, 1) := by decide +kernel
theorem dX10_setShade_33 : decode cX10_setShade 33 = .ok (.iload_n 3, 1) := by decide +kernel
theorem dX10_setShade_34 : decode cX10_setShade 34 = .ok (.invokevirtual 82, 3) := by decide +kernel
theorem dX10_setShade_37 : decode cX10_setShade 37 = .ok (.aload_n 0, 1) := by decide +kernel
theorem dX10_setShade_38 : decode cX10_setShade 38 = .ok (.getfield 10, 3) := by decide +kernel
theorem dX10_setShade_41 : decode cX10_setShade 41 = .ok (.getfield 52, 3) := by decide +kernel
theorem dX10_setShade_44 : decode cX10_setShade 44 = .ok (.iload_n 1, 1) := by decide +kernel
theorem dX10_setShade_45 : decode cX10_setShade 45 = .ok (.invokevirtual 86, 3) := by decide +kernel
theorem dX10_setShade_48 : decode cX10_setShade 48 = .ok (.ireturn, 1) := by decide +kernel
theorem dX10_set_0 : decode cX10_set 0 = .ok (.aload_n 0, 1) := by decide +kernel
theorem dX10_set_1 : decode cX10_set 1 = .ok (.getfield 10, 3) := by decide +kernel
theorem dX10_set_4 : decode cX10_set 4 = .ok (.iload_n 1, 1) := by decide +kernel
theorem dX10_set_5 : decode cX10_set 5 = .ok (.iload_n 2, 1) := by decide +kernel
theorem dX10_set_6 : decode cX10_set 6 = .ok (.invokevirtual 89, 3) := by decide +kernel
theorem dX10_set_9 : decode cX10_set 9 = .ok (.invokestatic 44, 3) := by decide +kernel
theorem dX10_set_12 : decode cX10_set 12 = .ok (.aload_n 0, 1) := by decide +kernel
theorem dX10_set_13 : decode cX10_set 13 = .ok (.getfield 29, 3) := by decide +kernel
theorem dX10_set_16 : decode cX10_set 16 = .ok (.aload_n 0, 1) := by decide +kernel
theorem dX10_set_17 : decode cX10_set 17 = .ok (.getfield 10, 3) := by decide +kernel
theorem dX10_set_20 : decode cX10_set 20 = .ok (.invokevirtual 48, 3) := by decide +kernel
theorem dX10_set_23 : decode cX10_set 23 = .ok (.aload_n 0, 1) := by decide +kernel
theorem dX10_set_24 : decode cX10_set 24 = .ok (.getfield 10, 3) := by decide +kernel
theorem dX10_set_27 : decode cX10_set 27 = .ok (.iload_n 1, 1) := by decide +kernel
theorem dX10_set_28 : decode cX10_set 28 = .ok (.iload_n 2, 1) := by decide +kernel
theorem dX10_set_29 : decode cX10_set 29 = .ok (.invokevirtual 92, 3) := by decide +kernel
theorem dX10_set_32 : decode cX10_set 32 = .ok (.ireturn, 1) := by decide +kernel
theorem dX10_bid_0 : decode cX10_bid 0 = .ok (.aload_n 0, 1) := by decide +kernel
theorem dX10_bid_1 : decode cX10_bid 1 = .ok (.getfield 10, 3) := by decide +kernel
theorem dX10_bid_4 : decode cX10_bid 4 = .ok (.iload_n 1, 1) := by decide +kernel
theorem dX10_bid_5 : decode cX10_bid 5 = .ok (.iload_n 2, 1) := by decide +kernel
theorem dX10_bid_6 : decode cX10_bid 6 = .ok (.invokevirtual 95, 3) := by decide +kernel
theorem dX10_bid_9 : decode cX10_bid 9 = .ok (.invokestatic 44, 3) := by decide +kernel
theorem dX10_bid_12 : decode cX10_bid 12 = .ok (.aload_n 0, 1) := by decide +kernel
theorem dX10_bid_13 : decode cX10_bid 13 = .ok (.getfield 29, 3) := by decide +kernel
theorem dX10_bid_16 : decode cX10_bid 16 = .ok (.aload_n 0, 1) := by decide +kernel
theorem dX10_bid_17 : decode cX10_bid 17 = .ok (.getfield 10, 3) := by decide +kernel
theorem dX10_bid_20 : decode cX10_bid 20 = .ok (.invokevirtual 48, 3) := by decide +kernel
theorem dX10_bid_23 : decode cX10_bid 23 = .ok (.aload_n 0, 1) := by decide +kernel
theorem dX10_bid_24 : decode cX10_bid 24 = .ok (.getfield 10, 3) := by decide +kernel
theorem dX10_bid_27 : decode cX10_bid 27 = .ok (.iload_n 1, 1) := by decide +kernel
theorem dX10_bid_28 : decode cX10_bid 28 = .ok (.aload_n 0, 1) := by decide +kernel
theorem dX10_bid_29 : decode cX10_bid 29 = .ok (.getfield 10, 3) := by decide +kernel
theorem dX10_bid_32 : decode cX10_bid 32 = .ok (.getfield 52, 3) := by decide +kernel
theorem dX10_bid_35 : decode cX10_bid 35 = .ok (.iload_n 1, 1) := by decide +kernel
theorem dX10_bid_36 : decode cX10_bid 36 = .ok (.invokevirtual 86, 3) := by decide +kernel
theorem dX10_bid_39 : decode cX10_bid 39 = .ok (.iload_n 2, 1) := by decide +kernel
theorem dX10_bid_40 : decode cX10_bid 40 = .ok (.invokevirtual 98, 3) := by decide +kernel
theorem dX10_bid_43 : decode cX10_bid 43 = .ok (.ireturn, 1) := by decide +kernel
theorem dX10_order_0 : decode cX10_order 0 = .ok (.aload_n 0, 1) := by decide +kernel
theorem dX10_order_1 : decode cX10_order 1 = .ok (.getfield 10, 3) := by decide +kernel
theorem dX10_order_4 : decode cX10_order 4 = .ok (.iload_n 1, 1) := by decide +kernel
theorem dX10_order_5 : decode cX10_order 5 = .ok (.iload_n 2, 1) := by decide +kernel
theorem dX10_order_6 : decode cX10_order 6 = .ok (.iload_n 3, 1) := by decide +kernel
theorem dX10_order_7 : decode cX10_order 7 = .ok (.invokevirtual 101, 3) := by decide +kernel
theorem dX10_order_10 : decode cX10_order 10 = .ok (.invokestatic 44, 3) := by decide +kernel
theorem dX10_order_13 : decode cX10_order 13 = .ok (.aload_n 0, 1) := by decide +kernel
theorem dX10_order_14 : decode cX10_order 14 = .ok (.getfield 29, 3) := by decide +kernel
theorem dX10_order_17 : decode cX10_order 17 = .ok (.aload_n 0, 1) := by decide +kernel
theorem dX10_order_18 : decode cX10_order 18 = .ok (.getfield 10, 3) := by decide +kernel
theorem dX10_order_21 : decode cX10_order 21 = .ok (.invokevirtual 48, 3) := by decide +kernel
theorem dX10_order_24 : decode cX10_order 24 = .ok (.aload_n 0, 1) := by decide +kernel
theorem dX10_order_25 : decode cX10_order 25 = .ok (.getfield 10, 3) := by decide +kernel
theorem dX10_order_28 : decode cX10_order 28 = .ok (.iload_n 1, 1) := by decide +kernel
theorem dX10_order_29 : decode cX10_order 29 = .ok (.iload_n 2, 1) := by decide +kernel
theorem dX10_order_30 : decode cX10_order 30 = .ok (.iload_n 3, 1) := by decide +kernel
theorem dX10_order_31 : decode cX10_order 31 = .ok (.invokevirtual 98, 3) := by decide +kernel
theorem dX10_order_34 : decode cX10_order 34 = .ok (.ireturn, 1) := by decide +kernel
theorem dX10_cancel_0 : decode cX10_cancel 0 = .ok (.aload_n 0, 1) := by decide +kernel
theorem dX10_cancel_1 : decode cX10_cancel 1 = .ok (.getfield 10, 3) := by decide +kernel
theorem dX10_cancel_4 : decode cX10_cancel 4 = .ok (.getfield 104, 3) := by decide +kernel
theorem dX10_cancel_7 : decode cX10_cancel 7 = .ok (.iload_n 1, 1) := by decide +kernel
theorem dX10_cancel_8 : decode cX10_cancel 8 = .ok (.invokevirtual 108, 3) := by decide +kernel
theorem dX10_cancel_11 : decode cX10_cancel 11 = .ok (.invokestatic 44, 3) := by decide +kernel
theorem dX10_cancel_14 : decode cX10_cancel 14 = .ok (.aload_n 0, 1) := by decide +kernel
theorem dX10_cancel_15 : decode cX10_cancel 15 = .ok (.getfield 29, 3) := by decide +kernel
theorem dX10_cancel_18 : decode cX10_cancel 18 = .ok (.aload_n 0, 1) := by decide +kernel
theorem dX10_cancel_19 : decode cX10_cancel 19 = .ok (.getfield 10, 3) := by decide +kernel
theorem dX10_cancel_22 : decode cX10_cancel 22 = .ok (.invokevirtual 48, 3) := by decide +kernel
theorem dX10_cancel_25 : decode cX10_cancel 25 = .ok (.aload_n 0, 1) := by decide +kernel
theorem dX10_cancel_26 : decode cX10_cancel 26 = .ok (.getfield 10, 3) := by decide +kernel
theorem dX10_cancel_29 : decode cX10_cancel 29 = .ok (.getfield 104, 3) := by decide +kernel
theorem dX10_cancel_32 : decode cX10_cancel 32 = .ok (.iload_n 1, 1) := by decide +kernel
theorem dX10_cancel_33 : decode cX10_cancel 33 = .ok (.invokevirtual 113, 3) := by decide +kernel
theorem dX10_cancel_36 : decode cX10_cancel 36 = .ok (.ireturn, 1) := by decide +kernel
theorem dX10_clear_0 : decode cX10_clear 0 = .ok (.aload_n 0, 1) := by decide +kernel
theorem dX10_clear_1 : decode cX10_clear 1 = .ok (.getfield 10, 3) := by decide +kernel
theorem dX10_clear_4 : decode cX10_clear 4 = .ok (.invokevirtual 116, 3) := by decide +kernel
theorem dX10_clear_7 : decode cX10_clear 7 = .ok (.invokestatic 44, 3) := by decide +kernel
theorem dX10_clear_10 : decode cX10_clear 10 = .ok (.aload_n 0, 1) := by decide +kernel
theorem dX10_clear_11 : decode cX10_clear 11 = .ok (.getfield 29, 3) := by decide +kernel
theorem dX10_clear_14 : decode cX10_clear 14 = .ok (.aload_n 0, 1) := by decide +kernel
theorem dX10_clear_15 : decode cX10_clear 15 = .ok (.getfield 10, 3) := by decide +kernel
theorem dX10_clear_18 : decode cX10_clear 18 = .ok (.invokevirtual 48, 3) := by decide +kernel
theorem dX10_clear_21 : decode cX10_clear 21 = .ok (.aload_n 0, 1) := by decide +kernel
theorem dX10_clear_22 : decode cX10_clear 22 = .ok (.getfield 10, 3) := by decide +kernel
theorem dX10_clear_25 : decode cX10_clear 25 = .ok (.aload_n 0, 1) := by decide +kernel
theorem dX10_clear_26 : decode cX10_clear 26 = .ok (.getfield 22, 3) := by decide +kernel
theorem dX10_clear_29 : decode cX10_clear 29 = .ok (.invokevirtual 120, 3) := by decide +kernel
theorem dX10_clear_32 : decode cX10_clear 32 = .ok (.ireturn, 1) := by decide +kernel
theorem dX10_trader_0 : decode cX10_trader 0 = .ok (.aload_n 0, 1) := by decide +kernel
theorem dX10_trader_1 : decode cX10_trader 1 = .ok (.getfield 10, 3) := by decide +kernel
theorem dX10_trader_4 : decode cX10_trader 4 = .ok (.getfield 52, 3) := by decide +kernel
theorem dX10_trader_7 : decode cX10_trader 7 = .ok (.iload_n 1, 1) := by decide +kernel
theorem dX10_trader_8 : decode cX10_trader 8 = .ok (.invokevirtual 124, 3) := by decide +kernel
theorem dX10_trader_11 : decode cX10_trader 11 = .ok (.invokestatic 44, 3) := by decide +kernel
theorem dX10_trader_14 : decode cX10_trader 14 = .ok (.iload_n 2, 1) := by decide +kernel
theorem dX10_trader_15 : decode cX10_trader 15 = .ok (.bipush 10, 2) := by decide +kernel
theorem dX10_trader_17 : decode cX10_trader 17 = .ok (.invokestatic 125, 3) := by decide +kernel
theorem dX10_trader_20 : decode cX10_trader 20 = .ok (.invokestatic 44, 3) := by decide +kernel
theorem dX10_trader_23 : decode cX10_trader 23 = .ok (.aload_n 0, 1) := by decide +kernel
theorem dX10_trader_24 : decode cX10_trader 24 = .ok (.getfield 10, 3) := by decide +kernel
theorem dX10_trader_27 : decode cX10_trader 27 = .ok (.iload_n 1, 1) := by decide +kernel
theorem dX10_trader_28 : decode cX10_trader 28 = .ok (.iload_n 2, 1) := by decide +kernel
theorem dX10_trader_29 : decode cX10_trader 29 = .ok (.invokevirtual 128, 3) := by decide +kernel
theorem dX10_trader_32 : decode cX10_trader 32 = .ok (.ireturn, 1) := by decide +kernel
theorem dX10_orderOf_0 : decode cX10_orderOf 0 = .ok (.aload_n 0, 1) := by decide +kernel
theorem dX10_orderOf_1 : decode cX10_orderOf 1 = .ok (.getfield 10, 3) := by decide +kernel
theorem dX10_orderOf_4 : decode cX10_orderOf 4 = .ok (.getfield 104, 3) := by decide +kernel
theorem dX10_orderOf_7 : decode cX10_orderOf 7 = .ok (.iload_n 1, 1) := by decide +kernel
theorem dX10_orderOf_8 : decode cX10_orderOf 8 = .ok (.invokevirtual 108, 3) := by decide +kernel
theorem dX10_orderOf_11 : decode cX10_orderOf 11 = .ok (.invokestatic 44, 3) := by decide +kernel
theorem dX10_orderOf_14 : decode cX10_orderOf 14 = .ok (.iload_n 2, 1) := by decide +kernel
theorem dX10_orderOf_15 : decode cX10_orderOf 15 = .ok (.iconst 5, 1) := by decide +kernel
theorem dX10_orderOf_16 : decode cX10_orderOf 16 = .ok (.invokestatic 125, 3) := by decide +kernel
theorem dX10_orderOf_19 : decode cX10_orderOf 19 = .ok (.invokestatic 44, 3) := by decide +kernel
theorem dX10_orderOf_22 : decode cX10_orderOf 22 = .ok (.aload_n 0, 1) := by decide +kernel
theorem dX10_orderOf_23 : decode cX10_orderOf 23 = .ok (.getfield 10, 3) := by decide +kernel
theorem dX10_orderOf_26 : decode cX10_orderOf 26 = .ok (.getfield 104, 3) := by decide +kernel
theorem dX10_orderOf_29 : decode cX10_orderOf 29 = .ok (.aload_n 0, 1) := by decide +kernel
theorem dX10_orderOf_30 : decode cX10_orderOf 30 = .ok (.getfield 10, 3) := by decide +kernel
theorem dX10_orderOf_33 : decode cX10_orderOf 33 = .ok (.getfield 104, 3) := by decide +kernel
theorem dX10_orderOf_36 : decode cX10_orderOf 36 = .ok (.iload_n 1, 1) := by decide +kernel
theorem dX10_orderOf_37 : decode cX10_orderOf 37 = .ok (.invokevirtual 131, 3) := by decide +kernel
theorem dX10_orderOf_40 : decode cX10_orderOf 40 = .ok (.iload_n 2, 1) := by decide +kernel
theorem dX10_orderOf_41 : decode cX10_orderOf 41 = .ok (.invokevirtual 134, 3) := by decide +kernel
theorem dX10_orderOf_44 : decode cX10_orderOf 44 = .ok (.ireturn, 1) := by decide +kernel
theorem dX10_trade_0 : decode cX10_trade 0 = .ok (.iload_n 1, 1) := by decide +kernel
theorem dX10_trade_1 : decode cX10_trade 1 = .ok (.ifCond .ge 7, 3) := by decide +kernel
theorem dX10_trade_4 : decode cX10_trade 4 = .ok (.iconst 2, 1) := by decide +kernel
theorem dX10_trade_5 : decode cX10_trade 5 = .ok (.goto 8, 3) := by decide +kernel
theorem dX10_trade_8 : decode cX10_trade 8 = .ok (.iload_n 2, 1) := by decide +kernel
theorem dX10_trade_9 : decode cX10_trade 9 = .ok (.iconst 5, 1) := by decide +kernel
theorem dX10_trade_10 : decode cX10_trade 10 = .ok (.invokestatic 125, 3) := by decide +kernel
theorem dX10_trade_13 : decode cX10_trade 13 = .ok (.invokestatic 44, 3) := by decide +kernel
theorem dX10_trade_16 : decode cX10_trade 16 = .ok (.aload_n 0, 1) := by decide +kernel
theorem dX10_trade_17 : decode cX10_trade 17 = .ok (.getfield 10, 3) := by decide +kernel
theorem dX10_trade_20 : decode cX10_trade 20 = .ok (.getfield 137, 3) := by decide +kernel
theorem dX10_trade_23 : decode cX10_trade 23 = .ok (.iload_n 1, 1) := by decide +kernel
theorem dX10_trade_24 : decode cX10_trade 24 = .ok (.iload_n 2, 1) := by decide +kernel
theorem dX10_trade_25 : decode cX10_trade 25 = .ok (.invokevirtual 141, 3) := by decide +kernel
theorem dX10_trade_28 : decode cX10_trade 28 = .ok (.ireturn, 1) := by decide +kernel
theorem dX10_at_0 : decode cX10_at 0 = .ok (.iload_n 1, 1) := by decide +kernel
theorem dX10_at_1 : decode cX10_at 1 = .ok (.invokestatic 144, 3) := by decide +kernel
theorem dX10_at_4 : decode cX10_at 4 = .ok (.invokestatic 44, 3) := by decide +kernel
theorem dX10_at_7 : decode cX10_at 7 = .ok (.iload_n 2, 1) := by decide +kernel
theorem dX10_at_8 : decode cX10_at 8 = .ok (.iconst 3, 1) := by decide +kernel
theorem dX10_at_9 : decode cX10_at 9 = .ok (.invokestatic 125, 3) := by decide +kernel
theorem dX10_at_12 : decode cX10_at 12 = .ok (.invokestatic 44, 3) := by decide +kernel
theorem dX10_at_15 : decode cX10_at 15 = .ok (.aload_n 0, 1) := by decide +kernel
theorem dX10_at_16 : decode cX10_at 16 = .ok (.getfield 10, 3) := by decide +kernel
theorem dX10_at_19 : decode cX10_at 19 = .ok (.getfield 104, 3) := by decide +kernel
theorem dX10_at_22 : decode cX10_at 22 = .ok (.iload_n 1, 1) := by decide +kernel
theorem dX10_at_23 : decode cX10_at 23 = .ok (.iload_n 2, 1) := by decide +kernel
theorem dX10_at_24 : decode cX10_at 24 = .ok (.invokevirtual 147, 3) := by decide +kernel
theorem dX10_at_27 : decode cX10_at 27 = .ok (.ireturn, 1) := by decide +kernel
theorem dX10_now_0 : decode cX10_now 0 = .ok (.iload_n 1, 1) := by decide +kernel
theorem dX10_now_1 : decode cX10_now 1 = .ok (.bipush 7, 2) := by decide +kernel
theorem dX10_now_3 : decode cX10_now 3 = .ok (.invokestatic 125, 3) := by decide +kernel
theorem dX10_now_6 : decode cX10_now 6 = .ok (.invokestatic 44, 3) := by decide +kernel
theorem dX10_now_9 : decode cX10_now 9 = .ok (.aload_n 0, 1) := by decide +kernel
theorem dX10_now_10 : decode cX10_now 10 = .ok (.getfield 22, 3) := by decide +kernel
theorem dX10_now_13 : decode cX10_now 13 = .ok (.aload_n 0, 1) := by decide +kernel
theorem dX10_now_14 : decode cX10_now 14 = .ok (.getfield 10, 3) := by decide +kernel
theorem dX10_now_17 : decode cX10_now 17 = .ok (.invokevirtual 150, 3) := by decide +kernel
theorem dX10_now_20 : decode cX10_now 20 = .ok (.aload_n 0, 1) := by decide +kernel
theorem dX10_now_21 : decode cX10_now 21 = .ok (.getfield 22, 3) := by decide +kernel
theorem dX10_now_24 : decode cX10_now 24 = .ok (.aload_n 0, 1) := by decide +kernel
theorem dX10_now_25 : decode cX10_now 25 = .ok (.getfield 10, 3) := by decide +kernel
theorem dX10_now_28 : decode cX10_now 28 = .ok (.iload_n 1, 1) := by decide +kernel
theorem dX10_now_29 : decode cX10_now 29 = .ok (.invokevirtual 153, 3) := by decide +kernel
theorem dX10_now_32 : decode cX10_now 32 = .ok (.ireturn, 1) := by decide +kernel
theorem dX10_whole_0 : decode cX10_whole 0 = .ok (.iload_n 1, 1) := by decide +kernel
theorem dX10_whole_1 : decode cX10_whole 1 = .ok (.bipush 12, 2) := by decide +kernel
theorem dX10_whole_3 : decode cX10_whole 3 = .ok (.invokestatic 125, 3) := by decide +kernel
theorem dX10_whole_6 : decode cX10_whole 6 = .ok (.invokestatic 44, 3) := by decide +kernel
theorem dX10_whole_9 : decode cX10_whole 9 = .ok (.aload_n 0, 1) := by decide +kernel
theorem dX10_whole_10 : decode cX10_whole 10 = .ok (.iload_n 1, 1) := by decide +kernel
theorem dX10_whole_11 : decode cX10_whole 11 = .ok (.invokevirtual 156, 3) := by decide +kernel
theorem dX10_whole_14 : decode cX10_whole 14 = .ok (.ireturn, 1) := by decide +kernel
theorem dX10_filled_0 : decode cX10_filled 0 = .ok (.aload_n 0, 1) := by decide +kernel
theorem dX10_filled_1 : decode cX10_filled 1 = .ok (.getfield 10, 3) := by decide +kernel
theorem dX10_filled_4 : decode cX10_filled 4 = .ok (.getfield 104, 3) := by decide +kernel
theorem dX10_filled_7 : decode cX10_filled 7 = .ok (.iload_n 1, 1) := by decide +kernel
theorem dX10_filled_8 : decode cX10_filled 8 = .ok (.invokevirtual 108, 3) := by decide +kernel
theorem dX10_filled_11 : decode cX10_filled 11 = .ok (.invokestatic 44, 3) := by decide +kernel
theorem dX10_filled_14 : decode cX10_filled 14 = .ok (.aload_n 0, 1) := by decide +kernel
theorem dX10_filled_15 : decode cX10_filled 15 = .ok (.getfield 22, 3) := by decide +kernel
theorem dX10_filled_18 : decode cX10_filled 18 = .ok (.aload_n 0, 1) := by decide +kernel
theorem dX10_filled_19 : decode cX10_filled 19 = .ok (.getfield 10, 3) := by decide +kernel
theorem dX10_filled_22 : decode cX10_filled 22 = .ok (.invokevirtual 150, 3) := by decide +kernel
theorem dX10_filled_25 : decode cX10_filled 25 = .ok (.aload_n 0, 1) := by decide +kernel
theorem dX10_filled_26 : decode cX10_filled 26 = .ok (.getfield 22, 3) := by decide +kernel
theorem dX10_filled_29 : decode cX10_filled 29 = .ok (.getfield 159, 3) := by decide +kernel
theorem dX10_filled_32 : decode cX10_filled 32 = .ok (.aload_n 0, 1) := by decide +kernel
theorem dX10_filled_33 : decode cX10_filled 33 = .ok (.getfield 10, 3) := by decide +kernel
theorem dX10_filled_36 : decode cX10_filled 36 = .ok (.getfield 104, 3) := by decide +kernel
theorem dX10_filled_39 : decode cX10_filled 39 = .ok (.iload_n 1, 1) := by decide +kernel
theorem dX10_filled_40 : decode cX10_filled 40 = .ok (.invokevirtual 131, 3) := by decide +kernel
theorem dX10_filled_43 : decode cX10_filled 43 = .ok (.invokevirtual 68, 3) := by decide +kernel
theorem dX10_filled_46 : decode cX10_filled 46 = .ok (.ireturn, 1) := by decide +kernel
theorem dX10_reason_0 : decode cX10_reason 0 = .ok (.aload_n 0, 1) := by decide +kernel
theorem dX10_reason_1 : decode cX10_reason 1 = .ok (.getfield 10, 3) := by decide +kernel
theorem dX10_reason_4 : decode cX10_reason 4 = .ok (.getfield 104, 3) := by decide +kernel
theorem dX10_reason_7 : decode cX10_reason 7 = .ok (.iload_n 1, 1) := by decide +kernel
theorem dX10_reason_8 : decode cX10_reason 8 = .ok (.invokevirtual 108, 3) := by decide +kernel
theorem dX10_reason_11 : decode cX10_reason 11 = .ok (.invokestatic 44, 3) := by decide +kernel
theorem dX10_reason_14 : decode cX10_reason 14 = .ok (.aload_n 0, 1) := by decide +kernel
theorem dX10_reason_15 : decode cX10_reason 15 = .ok (.getfield 22, 3) := by decide +kernel
theorem dX10_reason_18 : decode cX10_reason 18 = .ok (.aload_n 0, 1) := by decide +kernel
theorem dX10_reason_19 : decode cX10_reason 19 = .ok (.getfield 10, 3) := by decide +kernel
theorem dX10_reason_22 : decode cX10_reason 22 = .ok (.invokevirtual 150, 3) := by decide +kernel
theorem dX10_reason_25 : decode cX10_reason 25 = .ok (.aload_n 0, 1) := by decide +kernel
theorem dX10_reason_26 : decode cX10_reason 26 = .ok (.getfield 22, 3) := by decide +kernel
theorem dX10_reason_29 : decode cX10_reason 29 = .ok (.aload_n 0, 1) := by decide +kernel
theorem dX10_reason_30 : decode cX10_reason 30 = .ok (.getfield 10, 3) := by decide +kernel
theorem dX10_reason_33 : decode cX10_reason 33 = .ok (.getfield 104, 3) := by decide +kernel
theorem dX10_reason_36 : decode cX10_reason 36 = .ok (.aload_n 0, 1) := by decide +kernel
theorem dX10_reason_37 : decode cX10_reason 37 = .ok (.getfield 10, 3) := by decide +kernel
theorem dX10_reason_40 : decode cX10_reason 40 = .ok (.getfield 104, 3) := by decide +kernel
theorem dX10_reason_43 : decode cX10_reason 43 = .ok (.iload_n 1, 1) := by decide +kernel
theorem dX10_reason_44 : decode cX10_reason 44 = .ok (.invokevirtual 131, 3) := by decide +kernel
theorem dX10_reason_47 : decode cX10_reason 47 = .ok (.invokevirtual 162, 3) := by decide +kernel
theorem dX10_reason_50 : decode cX10_reason 50 = .ok (.ireturn, 1) := by decide +kernel
theorem dX10_gainWith_0 : decode cX10_gainWith 0 = .ok (.aload_n 0, 1) := by decide +kernel
theorem dX10_gainWith_1 : decode cX10_gainWith 1 = .ok (.getfield 10, 3) := by decide +kernel
theorem dX10_gainWith_4 : decode cX10_gainWith 4 = .ok (.getfield 52, 3) := by decide +kernel
theorem dX10_gainWith_7 : decode cX10_gainWith 7 = .ok (.iload_n 1, 1) := by decide +kernel
theorem dX10_gainWith_8 : decode cX10_gainWith 8 = .ok (.invokevirtual 124, 3) := by decide +kernel
theorem dX10_gainWith_11 : decode cX10_gainWith 11 = .ok (.invokestatic 44, 3) := by decide +kernel
theorem dX10_gainWith_14 : decode cX10_gainWith 14 = .ok (.iload_n 2, 1) := by decide +kernel
theorem dX10_gainWith_15 : decode cX10_gainWith 15 = .ok (.invokestatic 144, 3) := by decide +kernel
theorem dX10_gainWith_18 : decode cX10_gainWith 18 = .ok (.invokestatic 44, 3) := by decide +kernel
theorem dX10_gainWith_21 : decode cX10_gainWith 21 = .ok (.aload_n 0, 1) := by decide +kernel
theorem dX10_gainWith_22 : decode cX10_gainWith 22 = .ok (.getfield 10, 3) := by decide +kernel
theorem dX10_gainWith_25 : decode cX10_gainWith 25 = .ok (.getfield 104, 3) := by decide +kernel
theorem dX10_gainWith_28 : decode cX10_gainWith 28 = .ok (.invokevirtual 166, 3) := by decide +kernel
theorem dX10_gainWith_31 : decode cX10_gainWith 31 = .ok (.ifCond .eq 7, 3) := by decide +kernel
theorem dX10_gainWith_34 : decode cX10_gainWith 34 = .ok (.sipush (-10000), 3) := by decide +kernel
theorem dX10_gainWith_37 : decode cX10_gainWith 37 = .ok (.ireturn, 1) := by decide +kernel
theorem dX10_gainWith_38 : decode cX10_gainWith 38 = .ok (.aload_n 0, 1) := by decide +kernel
theorem dX10_gainWith_39 : decode cX10_gainWith 39 = .ok (.getfield 16, 3) := by decide +kernel
theorem dX10_gainWith_42 : decode cX10_gainWith 42 = .ok (.aload_n 0, 1) := by decide +kernel
theorem dX10_gainWith_43 : decode cX10_gainWith 43 = .ok (.getfield 10, 3) := by decide +kernel
theorem dX10_gainWith_46 : decode cX10_gainWith 46 = .ok (.invokevirtual 170, 3) := by decide +kernel
theorem dX10_gainWith_49 : decode cX10_gainWith 49 = .ok (.aload_n 0, 1) := by decide +kernel
theorem dX10_gainWith_50 : decode cX10_gainWith 50 = .ok (.getfield 16, 3) := by decide +kernel
theorem dX10_gainWith_53 : decode cX10_gainWith 53 = .ok (.iload_n 1, 1) := by decide +kernel
theorem dX10_gainWith_54 : decode cX10_gainWith 54 = .ok (.iload_n 2, 1) := by decide +kernel
theorem dX10_gainWith_55 : decode cX10_gainWith 55 = .ok (.iconst 1, 1) := by decide +kernel
theorem dX10_gainWith_56 : decode cX10_gainWith 56 = .ok (.invokevirtual 98, 3) := by decide +kernel
theorem dX10_gainWith_59 : decode cX10_gainWith 59 = .ok (.pop, 1) := by decide +kernel
theorem dX10_gainWith_60 : decode cX10_gainWith 60 = .ok (.aload_n 0, 1) := by decide +kernel
theorem dX10_gainWith_61 : decode cX10_gainWith 61 = .ok (.getfield 22, 3) := by decide +kernel
theorem dX10_gainWith_64 : decode cX10_gainWith 64 = .ok (.aload_n 0, 1) := by decide +kernel
theorem dX10_gainWith_65 : decode cX10_gainWith 65 = .ok (.getfield 16, 3) := by decide +kernel
theorem dX10_gainWith_68 : decode cX10_gainWith 68 = .ok (.invokevirtual 150, 3) := by decide +kernel
theorem dX10_gainWith_71 : decode cX10_gainWith 71 = .ok (.aload_n 0, 1) := by decide +kernel
theorem dX10_gainWith_72 : decode cX10_gainWith 72 = .ok (.getfield 22, 3) := by decide +kernel
theorem dX10_gainWith_75 : decode cX10_gainWith 75 = .ok (.aload_n 0, 1) := by decide +kernel
theorem dX10_gainWith_76 : decode cX10_gainWith 76 = .ok (.getfield 16, 3) := by decide +kernel
theorem dX10_gainWith_79 : decode cX10_gainWith 79 = .ok (.iload_n 1, 1) := by decide +kernel
theorem dX10_gainWith_80 : decode cX10_gainWith 80 = .ok (.aload_n 0, 1) := by decide +kernel
theorem dX10_gainWith_81 : decode cX10_gainWith 81 = .ok (.getfield 22, 3) := by decide +kernel
theorem dX10_gainWith_84 : decode cX10_gainWith 84 = .ok (.getfield 173, 3) := by decide +kernel
theorem dX10_gainWith_87 : decode cX10_gainWith 87 = .ok (.invokevirtual 177, 3) := by decide +kernel
theorem dX10_gainWith_90 : decode cX10_gainWith 90 = .ok (.ireturn, 1) := by decide +kernel
theorem dX10_bestShade_0 : decode cX10_bestShade 0 = .ok (.aload_n 0, 1) := by decide +kernel
theorem dX10_bestShade_1 : decode cX10_bestShade 1 = .ok (.getfield 10, 3) := by decide +kernel
theorem dX10_bestShade_4 : decode cX10_bestShade 4 = .ok (.getfield 52, 3) := by decide +kernel
theorem dX10_bestShade_7 : decode cX10_bestShade 7 = .ok (.iload_n 1, 1) := by decide +kernel
theorem dX10_bestShade_8 : decode cX10_bestShade 8 = .ok (.invokevirtual 124, 3) := by decide +kernel
theorem dX10_bestShade_11 : decode cX10_bestShade 11 = .ok (.invokestatic 44, 3) := by decide +kernel
theorem dX10_bestShade_14 : decode cX10_bestShade 14 = .ok (.aload_n 0, 1) := by decide +kernel
theorem dX10_bestShade_15 : decode cX10_bestShade 15 = .ok (.getfield 10, 3) := by decide +kernel
theorem dX10_bestShade_18 : decode cX10_bestShade 18 = .ok (.getfield 104, 3) := by decide +kernel
theorem dX10_bestShade_21 : decode cX10_bestShade 21 = .ok (.invokevirtual 166, 3) := by decide +kernel
theorem dX10_bestShade_24 : decode cX10_bestShade 24 = .ok (.ifCond .eq 7, 3) := by decide +kernel
theorem dX10_bestShade_27 : decode cX10_bestShade 27 = .ok (.sipush (-10000), 3) := by decide +kernel
theorem dX10_bestShade_30 : decode cX10_bestShade 30 = .ok (.ireturn, 1) := by decide +kernel
theorem dX10_bestShade_31 : decode cX10_bestShade 31 = .ok (.aload_n 0, 1) := by decide +kernel
theorem dX10_bestShade_32 : decode cX10_bestShade 32 = .ok (.getfield 16, 3) := by decide +kernel
theorem dX10_bestShade_35 : decode cX10_bestShade 35 = .ok (.aload_n 0, 1) := by decide +kernel
theorem dX10_bestShade_36 : decode cX10_bestShade 36 = .ok (.getfield 10, 3) := by decide +kernel
theorem dX10_bestShade_39 : decode cX10_bestShade 39 = .ok (.invokevirtual 170, 3) := by decide +kernel
theorem dX10_bestShade_42 : decode cX10_bestShade 42 = .ok (.aload_n 0, 1) := by decide +kernel
theorem dX10_bestShade_43 : decode cX10_bestShade 43 = .ok (.getfield 16, 3) := by decide +kernel
theorem dX10_bestShade_46 : decode cX10_bestShade 46 = .ok (.iload_n 1, 1) := by decide +kernel
theorem dX10_bestShade_47 : decode cX10_bestShade 47 = .ok (.iconst 1, 1) := by decide +kernel
theorem dX10_bestShade_48 : decode cX10_bestShade 48 = .ok (.iconst 1, 1) := by decide +kernel
theorem dX10_bestShade_49 : decode cX10_bestShade 49 = .ok (.invokevirtual 98, 3) := by decide +kernel
theorem dX10_bestShade_52 : decode cX10_bestShade 52 = .ok (.pop, 1) := by decide +kernel
theorem dX10_bestShade_53 : decode cX10_bestShade 53 = .ok (.aload_n 0, 1) := by decide +kernel
theorem dX10_bestShade_54 : decode cX10_bestShade 54 = .ok (.iload_n 1, 1) := by decide +kernel
theorem dX10_bestShade_55 : decode cX10_bestShade 55 = .ok (.invokevirtual 181, 3) := by decide +kernel
theorem dX10_bestShade_58 : decode cX10_bestShade 58 = .ok (.ireturn, 1) := by decide +kernel
theorem dX10_bestSplit_0 : decode cX10_bestSplit 0 = .ok (.aload_n 0, 1) := by decide +kernel
theorem dX10_bestSplit_1 : decode cX10_bestSplit 1 = .ok (.getfield 10, 3) := by decide +kernel
theorem dX10_bestSplit_4 : decode cX10_bestSplit 4 = .ok (.getfield 52, 3) := by decide +kernel
theorem dX10_bestSplit_7 : decode cX10_bestSplit 7 = .ok (.iload_n 1, 1) := by decide +kernel
theorem dX10_bestSplit_8 : decode cX10_bestSplit 8 = .ok (.invokevirtual 124, 3) := by decide +kernel
theorem dX10_bestSplit_11 : decode cX10_bestSplit 11 = .ok (.invokestatic 44, 3) := by decide +kernel
theorem dX10_bestSplit_14 : decode cX10_bestSplit 14 = .ok (.aload_n 0, 1) := by decide +kernel
theorem dX10_bestSplit_15 : decode cX10_bestSplit 15 = .ok (.getfield 22, 3) := by decide +kernel
theorem dX10_bestSplit_18 : decode cX10_bestSplit 18 = .ok (.aload_n 0, 1) := by decide +kernel
theorem dX10_bestSplit_19 : decode cX10_bestSplit 19 = .ok (.getfield 10, 3) := by decide +kernel
theorem dX10_bestSplit_22 : decode cX10_bestSplit 22 = .ok (.invokevirtual 150, 3) := by decide +kernel
theorem dX10_bestSplit_25 : decode cX10_bestSplit 25 = .ok (.aload_n 0, 1) := by decide +kernel
theorem dX10_bestSplit_26 : decode cX10_bestSplit 26 = .ok (.getfield 22, 3) := by decide +kernel
theorem dX10_bestSplit_29 : decode cX10_bestSplit 29 = .ok (.getfield 184, 3) := by decide +kernel
theorem dX10_bestSplit_32 : decode cX10_bestSplit 32 = .ok (.ifCond .ne 7, 3) := by decide +kernel
theorem dX10_bestSplit_35 : decode cX10_bestSplit 35 = .ok (.sipush (-10000), 3) := by decide +kernel
theorem dX10_bestSplit_38 : decode cX10_bestSplit 38 = .ok (.ireturn, 1) := by decide +kernel
theorem dX10_bestSplit_39 : decode cX10_bestSplit 39 = .ok (.iconst 0, 1) := by decide +kernel
theorem dX10_bestSplit_40 : decode cX10_bestSplit 40 = .ok (.istore_n 2, 1) := by decide +kernel
theorem dX10_bestSplit_41 : decode cX10_bestSplit 41 = .ok (.aload_n 0, 1) := by decide +kernel
theorem dX10_bestSplit_42 : decode cX10_bestSplit 42 = .ok (.getfield 22, 3) := by decide +kernel
theorem dX10_bestSplit_45 : decode cX10_bestSplit 45 = .ok (.aload_n 0, 1) := by decide +kernel
theorem dX10_bestSplit_46 : decode cX10_bestSplit 46 = .ok (.getfield 10, 3) := by decide +kernel
theorem dX10_bestSplit_49 : decode cX10_bestSplit 49 = .ok (.iload_n 1, 1) := by decide +kernel
theorem dX10_bestSplit_50 : decode cX10_bestSplit 50 = .ok (.aload_n 0, 1) := by decide +kernel
theorem dX10_bestSplit_51 : decode cX10_bestSplit 51 = .ok (.getfield 22, 3) := by decide +kernel
theorem dX10_bestSplit_54 : decode cX10_bestSplit 54 = .ok (.iconst 0, 1) := by decide +kernel
theorem dX10_bestSplit_55 : decode cX10_bestSplit 55 = .ok (.invokevirtual 187, 3) := by decide +kernel
theorem dX10_bestSplit_58 : decode cX10_bestSplit 58 = .ok (.invokevirtual 177, 3) := by decide +kernel
theorem dX10_bestSplit_61 : decode cX10_bestSplit 61 = .ok (.istore_n 3, 1) := by decide +kernel
theorem dX10_bestSplit_62 : decode cX10_bestSplit 62 = .ok (.iconst 1, 1) := by decide +kernel
theorem dX10_bestSplit_63 : decode cX10_bestSplit 63 = .ok (.istore 4, 2) := by decide +kernel
theorem dX10_bestSplit_65 : decode cX10_bestSplit 65 = .ok (.iload 4, 2) := by decide +kernel
theorem dX10_bestSplit_67 : decode cX10_bestSplit 67 = .ok (.bipush 10, 2) := by decide +kernel
theorem dX10_bestSplit_69 : decode cX10_bestSplit 69 = .ok (.if_icmp .gt 44, 3) := by decide +kernel
theorem dX10_bestSplit_72 : decode cX10_bestSplit 72 = .ok (.aload_n 0, 1) := by decide +kernel
theorem dX10_bestSplit_73 : decode cX10_bestSplit 73 = .ok (.getfield 22, 3) := by decide +kernel
theorem dX10_bestSplit_76 : decode cX10_bestSplit 76 = .ok (.aload_n 0, 1) := by decide +kernel
theorem dX10_bestSplit_77 : decode cX10_bestSplit 77 = .ok (.getfield 10, 3) := by decide +kernel
theorem dX10_bestSplit_80 : decode cX10_bestSplit 80 = .ok (.iload_n 1, 1) := by decide +kernel
theorem dX10_bestSplit_81 : decode cX10_bestSplit 81 = .ok (.aload_n 0, 1) := by decide +kernel
theorem dX10_bestSplit_82 : decode cX10_bestSplit 82 = .ok (.getfield 22, 3) := by decide +kernel
theorem dX10_bestSplit_85 : decode cX10_bestSplit 85 = .ok (.iload 4, 2) := by decide +kernel
theorem dX10_bestSplit_87 : decode cX10_bestSplit 87 = .ok (.invokevirtual 187, 3) := by decide +kernel
theorem dX10_bestSplit_90 : decode cX10_bestSplit 90 = .ok (.invokevirtual 177, 3) := by decide +kernel
theorem dX10_bestSplit_93 : decode cX10_bestSplit 93 = .ok (.istore 5, 2) := by decide +kernel
theorem dX10_bestSplit_95 : decode cX10_bestSplit 95 = .ok (.iload 5, 2) := by decide +kernel
theorem dX10_bestSplit_97 : decode cX10_bestSplit 97 = .ok (.iload_n 3, 1) := by decide +kernel
theorem dX10_bestSplit_98 : decode cX10_bestSplit 98 = .ok (.if_icmp .le 9, 3) := by decide +kernel
theorem dX10_bestSplit_101 : decode cX10_bestSplit 101 = .ok (.iload 5, 2) := by decide +kernel
theorem dX10_bestSplit_103 : decode cX10_bestSplit 103 = .ok (.istore_n 3, 1) := by decide +kernel
theorem dX10_bestSplit_104 : decode cX10_bestSplit 104 = .ok (.iload 4, 2) := by decide +kernel
theorem dX10_bestSplit_106 : decode cX10_bestSplit 106 = .ok (.istore_n 2, 1) := by decide +kernel
theorem dX10_bestSplit_107 : decode cX10_bestSplit 107 = .ok (.iinc 4 1, 3) := by decide +kernel
theorem dX10_bestSplit_110 : decode cX10_bestSplit 110 = .ok (.goto (-45), 3) := by decide +kernel
theorem dX10_bestSplit_113 : decode cX10_bestSplit 113 = .ok (.iload_n 2, 1) := by decide +kernel
theorem dX10_bestSplit_114 : decode cX10_bestSplit 114 = .ok (.ireturn, 1) := by decide +kernel
theorem dX10_goneIn_0 : decode cX10_goneIn 0 = .ok (.aload_n 0, 1) := by decide +kernel
theorem dX10_goneIn_1 : decode cX10_goneIn 1 = .ok (.getfield 10, 3) := by decide +kernel
theorem dX10_goneIn_4 : decode cX10_goneIn 4 = .ok (.getfield 104, 3) := by decide +kernel
theorem dX10_goneIn_7 : decode cX10_goneIn 7 = .ok (.iload_n 1, 1) := by decide +kernel
theorem dX10_goneIn_8 : decode cX10_goneIn 8 = .ok (.invokevirtual 108, 3) := by decide +kernel
theorem dX10_goneIn_11 : decode cX10_goneIn 11 = .ok (.invokestatic 44, 3) := by decide +kernel
theorem dX10_goneIn_14 : decode cX10_goneIn 14 = .ok (.aload_n 0, 1) := by decide +kernel
theorem dX10_goneIn_15 : decode cX10_goneIn 15 = .ok (.getfield 16, 3) := by decide +kernel
theorem dX10_goneIn_18 : decode cX10_goneIn 18 = .ok (.aload_n 0, 1) := by decide +kernel
theorem dX10_goneIn_19 : decode cX10_goneIn 19 = .ok (.getfield 10, 3) := by decide +kernel
theorem dX10_goneIn_22 : decode cX10_goneIn 22 = .ok (.invokevirtual 170, 3) := by decide +kernel
theorem dX10_goneIn_25 : decode cX10_goneIn 25 = .ok (.iconst 1, 1) := by decide +kernel
theorem dX10_goneIn_26 : decode cX10_goneIn 26 = .ok (.istore_n 2, 1) := by decide +kernel
theorem dX10_goneIn_27 : decode cX10_goneIn 27 = .ok (.iload_n 2, 1) := by decide +kernel
theorem dX10_goneIn_28 : decode cX10_goneIn 28 = .ok (.bipush 9, 2) := by decide +kernel
theorem dX10_goneIn_30 : decode cX10_goneIn 30 = .ok (.if_icmp .ge 37, 3) := by decide +kernel
theorem dX10_goneIn_33 : decode cX10_goneIn 33 = .ok (.aload_n 0, 1) := by decide +kernel
theorem dX10_goneIn_34 : decode cX10_goneIn 34 = .ok (.getfield 16, 3) := by decide +kernel
theorem dX10_goneIn_37 : decode cX10_goneIn 37 = .ok (.aload_n 0, 1) := by decide +kernel
theorem dX10_goneIn_38 : decode cX10_goneIn 38 = .ok (.getfield 22, 3) := by decide +kernel
theorem dX10_goneIn_41 : decode cX10_goneIn 41 = .ok (.invokevirtual 120, 3) := by decide +kernel
theorem dX10_goneIn_44 : decode cX10_goneIn 44 = .ok (.pop, 1) := by decide +kernel
theorem dX10_goneIn_45 : decode cX10_goneIn 45 = .ok (.aload_n 0, 1) := by decide +kernel
theorem dX10_goneIn_46 : decode cX10_goneIn 46 = .ok (.getfield 16, 3) := by decide +kernel
theorem dX10_goneIn_49 : decode cX10_goneIn 49 = .ok (.getfield 104, 3) := by decide +kernel
theorem dX10_goneIn_52 : decode cX10_goneIn 52 = .ok (.iload_n 1, 1) := by decide +kernel
theorem dX10_goneIn_53 : decode cX10_goneIn 53 = .ok (.invokevirtual 131, 3) := by decide +kernel
theorem dX10_goneIn_56 : decode cX10_goneIn 56 = .ok (.ifCond .ge 5, 3) := by decide +kernel
theorem dX10_goneIn_59 : decode cX10_goneIn 59 = .ok (.iload_n 2, 1) := by decide +kernel
theorem dX10_goneIn_60 : decode cX10_goneIn 60 = .ok (.ireturn, 1) := by decide +kernel
theorem dX10_goneIn_61 : decode cX10_goneIn 61 = .ok (.iinc 2 1, 3) := by decide +kernel
theorem dX10_goneIn_64 : decode cX10_goneIn 64 = .ok (.goto (-37), 3) := by decide +kernel
theorem dX10_goneIn_67 : decode cX10_goneIn 67 = .ok (.bipush 9, 2) := by decide +kernel
theorem dX10_goneIn_69 : decode cX10_goneIn 69 = .ok (.ireturn, 1) := by decide +kernel
theorem dX10_type_0 : decode cX10_type 0 = .ok (.aload_n 0, 1) := by decide +kernel
theorem dX10_type_1 : decode cX10_type 1 = .ok (.getfield 36, 3) := by decide +kernel
theorem dX10_type_4 : decode cX10_type 4 = .ok (.iload_n 1, 1) := by decide +kernel
theorem dX10_type_5 : decode cX10_type 5 = .ok (.invokevirtual 190, 3) := by decide +kernel
theorem dX10_type_8 : decode cX10_type 8 = .ok (.invokestatic 44, 3) := by decide +kernel
theorem dX10_type_11 : decode cX10_type 11 = .ok (.aload_n 0, 1) := by decide +kernel
theorem dX10_type_12 : decode cX10_type 12 = .ok (.getfield 36, 3) := by decide +kernel
theorem dX10_type_15 : decode cX10_type 15 = .ok (.iload_n 1, 1) := by decide +kernel
theorem dX10_type_16 : decode cX10_type 16 = .ok (.invokevirtual 193, 3) := by decide +kernel
theorem dX10_type_19 : decode cX10_type 19 = .ok (.ireturn, 1) := by decide +kernel
theorem dX10_clearCommands_0 : decode cX10_clearCommands 0 = .ok (.aload_n 0, 1) := by decide +kernel
theorem dX10_clearCommands_1 : decode cX10_clearCommands 1 = .ok (.getfield 36, 3) := by decide +kernel
theorem dX10_clearCommands_4 : decode cX10_clearCommands 4 = .ok (.invokevirtual 196, 3) := by decide +kernel
theorem dX10_clearCommands_7 : decode cX10_clearCommands 7 = .ok (.ireturn, 1) := by decide +kernel
theorem dX10_runCommands_0 : decode cX10_runCommands 0 = .ok (.aload_n 0, 1) := by decide +kernel
theorem dX10_runCommands_1 : decode cX10_runCommands 1 = .ok (.getfield 36, 3) := by decide +kernel
theorem dX10_runCommands_4 : decode cX10_runCommands 4 = .ok (.invokevirtual 199, 3) := by decide +kernel
theorem dX10_runCommands_7 : decode cX10_runCommands 7 = .ok (.istore_n 1, 1) := by decide +kernel
theorem dX10_runCommands_8 : decode cX10_runCommands 8 = .ok (.iload_n 1, 1) := by decide +kernel
theorem dX10_runCommands_9 : decode cX10_runCommands 9 = .ok (.ifCond .lt 8, 3) := by decide +kernel
theorem dX10_runCommands_12 : decode cX10_runCommands 12 = .ok (.bipush (-10), 2) := by decide +kernel
theorem dX10_runCommands_14 : decode cX10_runCommands 14 = .ok (.iload_n 1, 1) := by decide +kernel
theorem dX10_runCommands_15 : decode cX10_runCommands 15 = .ok (.isub, 1) := by decide +kernel
theorem dX10_runCommands_16 : decode cX10_runCommands 16 = .ok (.ireturn, 1) := by decide +kernel
theorem dX10_runCommands_17 : decode cX10_runCommands 17 = .ok (.aload_n 0, 1) := by decide +kernel
theorem dX10_runCommands_18 : decode cX10_runCommands 18 = .ok (.getfield 29, 3) := by decide +kernel
theorem dX10_runCommands_21 : decode cX10_runCommands 21 = .ok (.aload_n 0, 1) := by decide +kernel
theorem dX10_runCommands_22 : decode cX10_runCommands 22 = .ok (.getfield 10, 3) := by decide +kernel
theorem dX10_runCommands_25 : decode cX10_runCommands 25 = .ok (.invokevirtual 48, 3) := by decide +kernel
theorem dX10_runCommands_28 : decode cX10_runCommands 28 = .ok (.aload_n 0, 1) := by decide +kernel
theorem dX10_runCommands_29 : decode cX10_runCommands 29 = .ok (.getfield 36, 3) := by decide +kernel
theorem dX10_runCommands_32 : decode cX10_runCommands 32 = .ok (.invokevirtual 202, 3) := by decide +kernel
theorem dX10_runCommands_35 : decode cX10_runCommands 35 = .ok (.iconst 0, 1) := by decide +kernel
theorem dX10_runCommands_36 : decode cX10_runCommands 36 = .ok (.istore_n 2, 1) := by decide +kernel
theorem dX10_runCommands_37 : decode cX10_runCommands 37 = .ok (.iload_n 2, 1) := by decide +kernel
theorem dX10_runCommands_38 : decode cX10_runCommands 38 = .ok (.sipush 150, 3) := by decide +kernel
theorem dX10_runCommands_41 : decode cX10_runCommands 41 = .ok (.if_icmp .ge 32, 3) := by decide +kernel
theorem dX10_runCommands_44 : decode cX10_runCommands 44 = .ok (.aload_n 0, 1) := by decide +kernel
theorem dX10_runCommands_45 : decode cX10_runCommands 45 = .ok (.getfield 36, 3) := by decide +kernel
theorem dX10_runCommands_48 : decode cX10_runCommands 48 = .ok (.invokevirtual 205, 3) := by decide +kernel
theorem dX10_runCommands_51 : decode cX10_runCommands 51 = .ok (.ifCond .eq 10, 3) := by decide +kernel
theorem dX10_runCommands_54 : decode cX10_runCommands 54 = .ok (.aload_n 0, 1) := by decide +kernel
theorem dX10_runCommands_55 : decode cX10_runCommands 55 = .ok (.invokevirtual 208, 3) := by decide +kernel
theorem dX10_runCommands_58 : decode cX10_runCommands 58 = .ok (.ifCond .eq 5, 3) := by decide +kernel
theorem dX10_runCommands_61 : decode cX10_runCommands 61 = .ok (.iload_n 2, 1) := by decide +kernel
theorem dX10_runCommands_62 : decode cX10_runCommands 62 = .ok (.ireturn, 1) := by decide +kernel
theorem dX10_runCommands_63 : decode cX10_runCommands 63 = .ok (.aload_n 0, 1) := by decide +kernel
theorem dX10_runCommands_64 : decode cX10_runCommands 64 = .ok (.invokevirtual 211, 3) := by decide +kernel
theorem dX10_runCommands_67 : decode cX10_runCommands 67 = .ok (.iinc 2 1, 3) := by decide +kernel
theorem dX10_runCommands_70 : decode cX10_runCommands 70 = .ok (.goto (-33), 3) := by decide +kernel
theorem dX10_runCommands_73 : decode cX10_runCommands 73 = .ok (.sipush 150, 3) := by decide +kernel
theorem dX10_runCommands_76 : decode cX10_runCommands 76 = .ok (.ireturn, 1) := by decide +kernel
theorem dX10_undo_0 : decode cX10_undo 0 = .ok (.aload_n 0, 1) := by decide +kernel
theorem dX10_undo_1 : decode cX10_undo 1 = .ok (.getfield 29, 3) := by decide +kernel
theorem dX10_undo_4 : decode cX10_undo 4 = .ok (.getfield 214, 3) := by decide +kernel
theorem dX10_undo_7 : decode cX10_undo 7 = .ok (.ifCond .ne 7, 3) := by decide +kernel
theorem dX10_undo_10 : decode cX10_undo 10 = .ok (.iconst 3, 1) := by decide +kernel
theorem dX10_undo_11 : decode cX10_undo 11 = .ok (.goto 4, 3) := by decide +kernel
theorem dX10_undo_14 : decode cX10_undo 14 = .ok (.iconst 0, 1) := by decide +kernel
theorem dX10_undo_15 : decode cX10_undo 15 = .ok (.invokestatic 44, 3) := by decide +kernel
theorem dX10_undo_18 : decode cX10_undo 18 = .ok (.aload_n 0, 1) := by decide +kernel
theorem dX10_undo_19 : decode cX10_undo 19 = .ok (.getfield 29, 3) := by decide +kernel
theorem dX10_undo_22 : decode cX10_undo 22 = .ok (.aload_n 0, 1) := by decide +kernel
theorem dX10_undo_23 : decode cX10_undo 23 = .ok (.getfield 10, 3) := by decide +kernel
theorem dX10_undo_26 : decode cX10_undo 26 = .ok (.invokevirtual 217, 3) := by decide +kernel
theorem dX10_undo_29 : decode cX10_undo 29 = .ok (.aload_n 0, 1) := by decide +kernel
theorem dX10_undo_30 : decode cX10_undo 30 = .ok (.getfield 29, 3) := by decide +kernel
theorem dX10_undo_33 : decode cX10_undo 33 = .ok (.getfield 214, 3) := by decide +kernel
theorem dX10_undo_36 : decode cX10_undo 36 = .ok (.ireturn, 1) := by decide +kernel
theorem dX10_digest_0 : decode cX10_digest 0 = .ok (.ldc2_w 220, 3) := by decide +kernel
theorem dX10_digest_3 : decode cX10_digest 3 = .ok (.aload_n 0, 1) := by decide +kernel
theorem dX10_digest_4 : decode cX10_digest 4 = .ok (.getfield 29, 3) := by decide +kernel
theorem dX10_digest_7 : decode cX10_digest 7 = .ok (.getfield 214, 3) := by decide +kernel
theorem dX10_digest_10 : decode cX10_digest 10 = .ok (.i2l, 1) := by decide +kernel
theorem dX10_digest_11 : decode cX10_digest 11 = .ok (.invokestatic 222, 3) := by decide +kernel
theorem dX10_digest_14 : decode cX10_digest 14 = .ok (.lstore_n 1, 1) := by decide +kernel
theorem dX10_digest_15 : decode cX10_digest 15 = .ok (.iconst 0, 1) := by decide +kernel
theorem dX10_digest_16 : decode cX10_digest 16 = .ok (.istore_n 3, 1) := by decide +kernel
theorem dX10_digest_17 : decode cX10_digest 17 = .ok (.iload_n 3, 1) := by decide +kernel
theorem dX10_digest_18 : decode cX10_digest 18 = .ok (.bipush 12, 2) := by decide +kernel
theorem dX10_digest_20 : decode cX10_digest 20 = .ok (.if_icmp .ge 20, 3) := by decide +kernel
theorem dX10_digest_23 : decode cX10_digest 23 = .ok (.lload_n 1, 1) := by decide +kernel
theorem dX10_digest_24 : decode cX10_digest 24 = .ok (.aload_n 0, 1) := by decide +kernel
theorem dX10_digest_25 : decode cX10_digest 25 = .ok (.iload_n 3, 1) := by decide +kernel
theorem dX10_digest_26 : decode cX10_digest 26 = .ok (.invokevirtual 156, 3) := by decide +kernel
theorem dX10_digest_29 : decode cX10_digest 29 = .ok (.i2l, 1) := by decide +kernel
theorem dX10_digest_30 : decode cX10_digest 30 = .ok (.invokestatic 222, 3) := by decide +kernel
theorem dX10_digest_33 : decode cX10_digest 33 = .ok (.lstore_n 1, 1) := by decide +kernel
theorem dX10_digest_34 : decode cX10_digest 34 = .ok (.iinc 3 1, 3) := by decide +kernel
theorem dX10_digest_37 : decode cX10_digest 37 = .ok (.goto (-20), 3) := by decide +kernel
theorem dX10_digest_40 : decode cX10_digest 40 = .ok (.aload_n 0, 1) := by decide +kernel
theorem dX10_digest_41 : decode cX10_digest 41 = .ok (.getfield 22, 3) := by decide +kernel
theorem dX10_digest_44 : decode cX10_digest 44 = .ok (.aload_n 0, 1) := by decide +kernel
theorem dX10_digest_45 : decode cX10_digest 45 = .ok (.getfield 10, 3) := by decide +kernel
theorem dX10_digest_48 : decode cX10_digest 48 = .ok (.invokevirtual 150, 3) := by decide +kernel
theorem dX10_digest_51 : decode cX10_digest 51 = .ok (.iconst 0, 1) := by decide +kernel
theorem dX10_digest_52 : decode cX10_digest 52 = .ok (.istore_n 3, 1) := by decide +kernel
theorem dX10_digest_53 : decode cX10_digest 53 = .ok (.iload_n 3, 1) := by decide +kernel
theorem dX10_digest_54 : decode cX10_digest 54 = .ok (.bipush 7, 2) := by decide +kernel
theorem dX10_digest_56 : decode cX10_digest 56 = .ok (.if_icmp .ge 27, 3) := by decide +kernel
theorem dX10_digest_59 : decode cX10_digest 59 = .ok (.lload_n 1, 1) := by decide +kernel
theorem dX10_digest_60 : decode cX10_digest 60 = .ok (.aload_n 0, 1) := by decide +kernel
theorem dX10_digest_61 : decode cX10_digest 61 = .ok (.getfield 22, 3) := by decide +kernel
theorem dX10_digest_64 : decode cX10_digest 64 = .ok (.aload_n 0, 1) := by decide +kernel
theorem dX10_digest_65 : decode cX10_digest 65 = .ok (.getfield 10, 3) := by decide +kernel
theorem dX10_digest_68 : decode cX10_digest 68 = .ok (.iload_n 3, 1) := by decide +kernel
theorem dX10_digest_69 : decode cX10_digest 69 = .ok (.invokevirtual 153, 3) := by decide +kernel
theorem dX10_digest_72 : decode cX10_digest 72 = .ok (.i2l, 1) := by decide +kernel
theorem dX10_digest_73 : decode cX10_digest 73 = .ok (.invokestatic 222, 3) := by decide +kernel
theorem dX10_digest_76 : decode cX10_digest 76 = .ok (.lstore_n 1, 1) := by decide +kernel
theorem dX10_digest_77 : decode cX10_digest 77 = .ok (.iinc 3 1, 3) := by decide +kernel
theorem dX10_digest_80 : decode cX10_digest 80 = .ok (.goto (-27), 3) := by decide +kernel
theorem dX10_digest_83 : decode cX10_digest 83 = .ok (.aload_n 0, 1) := by decide +kernel
theorem dX10_digest_84 : decode cX10_digest 84 = .ok (.aload_n 0, 1) := by decide +kernel
theorem dX10_digest_85 : decode cX10_digest 85 = .ok (.aload_n 0, 1) := by decide +kernel
theorem dX10_digest_86 : decode cX10_digest 86 = .ok (.lload_n 1, 1) := by decide +kernel
theorem dX10_digest_87 : decode cX10_digest 87 = .ok (.invokevirtual 226, 3) := by decide +kernel
theorem dX10_digest_90 : decode cX10_digest 90 = .ok (.invokevirtual 230, 3) := by decide +kernel
theorem dX10_digest_93 : decode cX10_digest 93 = .ok (.invokevirtual 233, 3) := by decide +kernel
theorem dX10_digest_96 : decode cX10_digest 96 = .ok (.lreturn, 1) := by decide +kernel
theorem dX10_mix_0 : decode cX10_mix 0 = .ok (.ldc2_w 236, 3) := by decide +kernel
theorem dX10_mix_3 : decode cX10_mix 3 = .ok (.lload_n 0, 1) := by decide +kernel
theorem dX10_mix_4 : decode cX10_mix 4 = .ok (.lmul, 1) := by decide +kernel
theorem dX10_mix_5 : decode cX10_mix 5 = .ok (.lload_n 2, 1) := by decide +kernel
theorem dX10_mix_6 : decode cX10_mix 6 = .ok (.ladd, 1) := by decide +kernel
theorem dX10_mix_7 : decode cX10_mix 7 = .ok (.lreturn, 1) := by decide +kernel
theorem dX10_mixTraders_0 : decode cX10_mixTraders 0 = .ok (.lload_n 1, 1) := by decide +kernel
theorem dX10_mixTraders_1 : decode cX10_mixTraders 1 = .ok (.lstore_n 3, 1) := by decide +kernel
theorem dX10_mixTraders_2 : decode cX10_mixTraders 2 = .ok (.iconst 0, 1) := by decide +kernel
theorem dX10_mixTraders_3 : decode cX10_mixTraders 3 = .ok (.istore 5, 2) := by decide +kernel
theorem dX10_mixTraders_5 : decode cX10_mixTraders 5 = .ok (.iload 5, 2) := by decide +kernel
theorem dX10_mixTraders_7 : decode cX10_mixTraders 7 = .ok (.aload_n 0, 1) := by decide +kernel
theorem dX10_mixTraders_8 : decode cX10_mixTraders 8 = .ok (.getfield 10, 3) := by decide +kernel
theorem dX10_mixTraders_11 : decode cX10_mixTraders 11 = .ok (.getfield 52, 3) := by decide +kernel
theorem dX10_mixTraders_14 : decode cX10_mixTraders 14 = .ok (.getfield 238, 3) := by decide +kernel
theorem dX10_mixTraders_17 : decode cX10_mixTraders 17 = .ok (.if_icmp .ge 42, 3) := by decide +kernel
theorem dX10_mixTraders_20 : decode cX10_mixTraders 20 = .ok (.iconst 0, 1) := by decide +kernel
theorem dX10_mixTraders_21 : decode cX10_mixTraders 21 = .ok (.istore 6, 2) := by decide +kernel
theorem dX10_mixTraders_23 : decode cX10_mixTraders 23 = .ok (.iload 6, 2) := by decide +kernel
theorem dX10_mixTraders_25 : decode cX10_mixTraders 25 = .ok (.bipush 10, 2) := by decide +kernel
theorem dX10_mixTraders_27 : decode cX10_mixTraders 27 = .ok (.if_icmp .ge 26, 3) := by decide +kernel
theorem dX10_mixTraders_30 : decode cX10_mixTraders 30 = .ok (.lload_n 3, 1) := by decide +kernel
theorem dX10_mixTraders_31 : decode cX10_mixTraders 31 = .ok (.aload_n 0, 1) := by decide +kernel
theorem dX10_mixTraders_32 : decode cX10_mixTraders 32 = .ok (.getfield 10, 3) := by decide +kernel
theorem dX10_mixTraders_35 : decode cX10_mixTraders 35 = .ok (.iload 5, 2) := by decide +kernel
theorem dX10_mixTraders_37 : decode cX10_mixTraders 37 = .ok (.iload 6, 2) := by decide +kernel
theorem dX10_mixTraders_39 : decode cX10_mixTraders 39 = .ok (.invokevirtual 128, 3) := by decide +kernel
theorem dX10_mixTraders_42 : decode cX10_mixTraders 42 = .ok (.i2l, 1) := by decide +kernel
theorem dX10_mixTraders_43 : decode cX10_mixTraders 43 = .ok (.invokestatic 222, 3) := by decide +kernel
theorem dX10_mixTraders_46 : decode cX10_mixTraders 46 = .ok (.lstore_n 3, 1) := by decide +kernel
theorem dX10_mixTraders_47 : decode cX10_mixTraders 47 = .ok (.iinc 6 1, 3) := by decide +kernel
theorem dX10_mixTraders_50 : decode cX10_mixTraders 50 = .ok (.goto (-27), 3) := by decide +kernel
theorem dX10_mixTraders_53 : decode cX10_mixTraders 53 = .ok (.iinc 5 1, 3) := by decide +kernel
theorem dX10_mixTraders_56 : decode cX10_mixTraders 56 = .ok (.goto (-51), 3) := by decide +kernel
theorem dX10_mixTraders_59 : decode cX10_mixTraders 59 = .ok (.lload_n 3, 1) := by decide +kernel
theorem dX10_mixTraders_60 : decode cX10_mixTraders 60 = .ok (.lreturn, 1) := by decide +kernel
theorem dX10_mixOrders_0 : decode cX10_mixOrders 0 = .ok (.lload_n 1, 1) := by decide +kernel
theorem dX10_mixOrders_1 : decode cX10_mixOrders 1 = .ok (.lstore_n 3, 1) := by decide +kernel
theorem dX10_mixOrders_2 : decode cX10_mixOrders 2 = .ok (.iconst 0, 1) := by decide +kernel
theorem dX10_mixOrders_3 : decode cX10_mixOrders 3 = .ok (.istore 5, 2) := by decide +kernel
theorem dX10_mixOrders_5 : decode cX10_mixOrders 5 = .ok (.iload 5, 2) := by decide +kernel
theorem dX10_mixOrders_7 : decode cX10_mixOrders 7 = .ok (.aload_n 0, 1) := by decide +kernel
theorem dX10_mixOrders_8 : decode cX10_mixOrders 8 = .ok (.getfield 10, 3) := by decide +kernel
theorem dX10_mixOrders_11 : decode cX10_mixOrders 11 = .ok (.getfield 104, 3) := by decide +kernel
theorem dX10_mixOrders_14 : decode cX10_mixOrders 14 = .ok (.getfield 239, 3) := by decide +kernel
theorem dX10_mixOrders_17 : decode cX10_mixOrders 17 = .ok (.if_icmp .ge 83, 3) := by decide +kernel
theorem dX10_mixOrders_20 : decode cX10_mixOrders 20 = .ok (.lload_n 3, 1) := by decide +kernel
theorem dX10_mixOrders_21 : decode cX10_mixOrders 21 = .ok (.aload_n 0, 1) := by decide +kernel
theorem dX10_mixOrders_22 : decode cX10_mixOrders 22 = .ok (.getfield 10, 3) := by decide +kernel
theorem dX10_mixOrders_25 : decode cX10_mixOrders 25 = .ok (.getfield 104, 3) := by decide +kernel
theorem dX10_mixOrders_28 : decode cX10_mixOrders 28 = .ok (.getfield 240, 3) := by decide +kernel
theorem dX10_mixOrders_31 : decode cX10_mixOrders 31 = .ok (.iload 5, 2) := by decide +kernel
theorem dX10_mixOrders_33 : decode cX10_mixOrders 33 = .ok (.invokevirtual 68, 3) := by decide +kernel
theorem dX10_mixOrders_36 : decode cX10_mixOrders 36 = .ok (.i2l, 1) := by decide +kernel
theorem dX10_mixOrders_37 : decode cX10_mixOrders 37 = .ok (.invokestatic 222, 3) := by decide +kernel
theorem dX10_mixOrders_40 : decode cX10_mixOrders 40 = .ok (.lstore_n 3, 1) := by decide +kernel
theorem dX10_mixOrders_41 : decode cX10_mixOrders 41 = .ok (.iconst 0, 1) := by decide +kernel
theorem dX10_mixOrders_42 : decode cX10_mixOrders 42 = .ok (.istore 6, 2) := by decide +kernel
theorem dX10_mixOrders_44 : decode cX10_mixOrders 44 = .ok (.iload 6, 2) := by decide +kernel
theorem dX10_mixOrders_46 : decode cX10_mixOrders 46 = .ok (.iconst 5, 1) := by decide +kernel
theorem dX10_mixOrders_47 : decode cX10_mixOrders 47 = .ok (.if_icmp .ge 29, 3) := by decide +kernel
theorem dX10_mixOrders_50 : decode cX10_mixOrders 50 = .ok (.lload_n 3, 1) := by decide +kernel
theorem dX10_mixOrders_51 : decode cX10_mixOrders 51 = .ok (.aload_n 0, 1) := by decide +kernel
theorem dX10_mixOrders_52 : decode cX10_mixOrders 52 = .ok (.getfield 10, 3) := by decide +kernel
theorem dX10_mixOrders_55 : decode cX10_mixOrders 55 = .ok (.getfield 104, 3) := by decide +kernel
theorem dX10_mixOrders_58 : decode cX10_mixOrders 58 = .ok (.iload 5, 2) := by decide +kernel
theorem dX10_mixOrders_60 : decode cX10_mixOrders 60 = .ok (.iload 6, 2) := by decide +kernel
theorem dX10_mixOrders_62 : decode cX10_mixOrders 62 = .ok (.invokevirtual 134, 3) := by decide +kernel
theorem dX10_mixOrders_65 : decode cX10_mixOrders 65 = .ok (.i2l, 1) := by decide +kernel
theorem dX10_mixOrders_66 : decode cX10_mixOrders 66 = .ok (.invokestatic 222, 3) := by decide +kernel
theorem dX10_mixOrders_69 : decode cX10_mixOrders 69 = .ok (.lstore_n 3, 1) := by decide +kernel
theorem dX10_mixOrders_70 : decode cX10_mixOrders 70 = .ok (.iinc 6 1, 3) := by decide +kernel
theorem dX10_mixOrders_73 : decode cX10_mixOrders 73 = .ok (.goto (-29), 3) := by decide +kernel
theorem dX10_mixOrders_76 : decode cX10_mixOrders 76 = .ok (.lload_n 3, 1) := by decide +kernel
theorem dX10_mixOrders_77 : decode cX10_mixOrders 77 = .ok (.aload_n 0, 1) := by decide +kernel
theorem dX10_mixOrders_78 : decode cX10_mixOrders 78 = .ok (.getfield 22, 3) := by decide +kernel
theorem dX10_mixOrders_81 : decode cX10_mixOrders 81 = .ok (.getfield 159, 3) := by decide +kernel
theorem dX10_mixOrders_84 : decode cX10_mixOrders 84 = .ok (.iload 5, 2) := by decide +kernel
theorem dX10_mixOrders_86 : decode cX10_mixOrders 86 = .ok (.invokevirtual 68, 3) := by decide +kernel
theorem dX10_mixOrders_89 : decode cX10_mixOrders 89 = .ok (.i2l, 1) := by decide +kernel
theorem dX10_mixOrders_90 : decode cX10_mixOrders 90 = .ok (.invokestatic 222, 3) := by decide +kernel
theorem dX10_mixOrders_93 : decode cX10_mixOrders 93 = .ok (.lstore_n 3, 1) := by decide +kernel
theorem dX10_mixOrders_94 : decode cX10_mixOrders 94 = .ok (.iinc 5 1, 3) := by decide +kernel
theorem dX10_mixOrders_97 : decode cX10_mixOrders 97 = .ok (.goto (-92), 3) := by decide +kernel
theorem dX10_mixOrders_100 : decode cX10_mixOrders 100 = .ok (.lload_n 3, 1) := by decide +kernel
theorem dX10_mixOrders_101 : decode cX10_mixOrders 101 = .ok (.lreturn, 1) := by decide +kernel
theorem dX10_mixTrades_0 : decode cX10_mixTrades 0 = .ok (.lload_n 1, 1) := by decide +kernel
theorem dX10_mixTrades_1 : decode cX10_mixTrades 1 = .ok (.lstore_n 3, 1) := by decide +kernel
theorem dX10_mixTrades_2 : decode cX10_mixTrades 2 = .ok (.iconst 0, 1) := by decide +kernel
theorem dX10_mixTrades_3 : decode cX10_mixTrades 3 = .ok (.istore 5, 2) := by decide +kernel
theorem dX10_mixTrades_5 : decode cX10_mixTrades 5 = .ok (.iload 5, 2) := by decide +kernel
theorem dX10_mixTrades_7 : decode cX10_mixTrades 7 = .ok (.aload_n 0, 1) := by decide +kernel
theorem dX10_mixTrades_8 : decode cX10_mixTrades 8 = .ok (.getfield 10, 3) := by decide +kernel
theorem dX10_mixTrades_11 : decode cX10_mixTrades 11 = .ok (.getfield 137, 3) := by decide +kernel
theorem dX10_mixTrades_14 : decode cX10_mixTrades 14 = .ok (.getfield 243, 3) := by decide +kernel
theorem dX10_mixTrades_17 : decode cX10_mixTrades 17 = .ok (.if_icmp .ge 44, 3) := by decide +kernel
theorem dX10_mixTrades_20 : decode cX10_mixTrades 20 = .ok (.iconst 0, 1) := by decide +kernel
theorem dX10_mixTrades_21 : decode cX10_mixTrades 21 = .ok (.istore 6, 2) := by decide +kernel
theorem dX10_mixTrades_23 : decode cX10_mixTrades 23 = .ok (.iload 6, 2) := by decide +kernel
theorem dX10_mixTrades_25 : decode cX10_mixTrades 25 = .ok (.iconst 5, 1) := by decide +kernel
theorem dX10_mixTrades_26 : decode cX10_mixTrades 26 = .ok (.if_icmp .ge 29, 3) := by decide +kernel
theorem dX10_mixTrades_29 : decode cX10_mixTrades 29 = .ok (.lload_n 3, 1) := by decide +kernel
theorem dX10_mixTrades_30 : decode cX10_mixTrades 30 = .ok (.aload_n 0, 1) := by decide +kernel
theorem dX10_mixTrades_31 : decode cX10_mixTrades 31 = .ok (.getfield 10, 3) := by decide +kernel
theorem dX10_mixTrades_34 : decode cX10_mixTrades 34 = .ok (.getfield 137, 3) := by decide +kernel
theorem dX10_mixTrades_37 : decode cX10_mixTrades 37 = .ok (.iload 5, 2) := by decide +kernel
theorem dX10_mixTrades_39 : decode cX10_mixTrades 39 = .ok (.iload 6, 2) := by decide +kernel
theorem dX10_mixTrades_41 : decode cX10_mixTrades 41 = .ok (.invokevirtual 141, 3) := by decide +kernel
theorem dX10_mixTrades_44 : decode cX10_mixTrades 44 = .ok (.i2l, 1) := by decide +kernel
theorem dX10_mixTrades_45 : decode cX10_mixTrades 45 = .ok (.invokestatic 222, 3) := by decide +kernel
theorem dX10_mixTrades_48 : decode cX10_mixTrades 48 = .ok (.lstore_n 3, 1) := by decide +kernel
theorem dX10_mixTrades_49 : decode cX10_mixTrades 49 = .ok (.iinc 6 1, 3) := by decide +kernel
theorem dX10_mixTrades_52 : decode cX10_mixTrades 52 = .ok (.goto (-29), 3) := by decide +kernel
theorem dX10_mixTrades_55 : decode cX10_mixTrades 55 = .ok (.iinc 5 1, 3) := by decide +kernel
theorem dX10_mixTrades_58 : decode cX10_mixTrades 58 = .ok (.goto (-53), 3) := by decide +kernel
theorem dX10_mixTrades_61 : decode cX10_mixTrades 61 = .ok (.lload_n 3, 1) := by decide +kernel
theorem dX10_mixTrades_62 : decode cX10_mixTrades 62 = .ok (.lreturn, 1) := by decide +kernel
theorem dX10_refuse_0 : decode cX10_refuse 0 = .ok (.iload_n 0, 1) := by decide +kernel
theorem dX10_refuse_1 : decode cX10_refuse 1 = .ok (.tableswitch 58 1 3 #[27, 37, 47], 27) := by decide +kernel
theorem dX10_refuse_28 : decode cX10_refuse 28 = .ok (.new 244, 3) := by decide +kernel
theorem dX10_refuse_31 : decode cX10_refuse 31 = .ok (.dup, 1) := by decide +kernel
theorem dX10_refuse_32 : decode cX10_refuse 32 = .ok (.ldc 246, 2) := by decide +kernel
theorem dX10_refuse_34 : decode cX10_refuse 34 = .ok (.invokespecial 248, 3) := by decide +kernel
theorem dX10_refuse_37 : decode cX10_refuse 37 = .ok (.athrow, 1) := by decide +kernel
theorem dX10_refuse_38 : decode cX10_refuse 38 = .ok (.new 251, 3) := by decide +kernel
theorem dX10_refuse_41 : decode cX10_refuse 41 = .ok (.dup, 1) := by decide +kernel
theorem dX10_refuse_42 : decode cX10_refuse 42 = .ok (.ldc 253, 2) := by decide +kernel
theorem dX10_refuse_44 : decode cX10_refuse 44 = .ok (.invokespecial 255, 3) := by decide +kernel
theorem dX10_refuse_47 : decode cX10_refuse 47 = .ok (.athrow, 1) := by decide +kernel
theorem dX10_refuse_48 : decode cX10_refuse 48 = .ok (.new 256, 3) := by decide +kernel
theorem dX10_refuse_51 : decode cX10_refuse 51 = .ok (.dup, 1) := by decide +kernel
theorem dX10_refuse_52 : decode cX10_refuse 52 = .ok (.ldc_w 258, 3) := by decide +kernel
theorem dX10_refuse_55 : decode cX10_refuse 55 = .ok (.invokespecial 260, 3) := by decide +kernel
theorem dX10_refuse_58 : decode cX10_refuse 58 = .ok (.athrow, 1) := by decide +kernel
theorem dX10_refuse_59 : decode cX10_refuse 59 = .ok (.return_, 1) := by decide +kernel
theorem dX10_isWithin_0 : decode cX10_isWithin 0 = .ok (.iload_n 0, 1) := by decide +kernel
theorem dX10_isWithin_1 : decode cX10_isWithin 1 = .ok (.iload_n 1, 1) := by decide +kernel
theorem dX10_isWithin_2 : decode cX10_isWithin 2 = .ok (.if_icmp .lt 12, 3) := by decide +kernel
theorem dX10_isWithin_5 : decode cX10_isWithin 5 = .ok (.iload_n 0, 1) := by decide +kernel
theorem dX10_isWithin_6 : decode cX10_isWithin 6 = .ok (.iload_n 2, 1) := by decide +kernel
theorem dX10_isWithin_7 : decode cX10_isWithin 7 = .ok (.if_icmp .gt 7, 3) := by decide +kernel
theorem dX10_isWithin_10 : decode cX10_isWithin 10 = .ok (.iconst 1, 1) := by decide +kernel
theorem dX10_isWithin_11 : decode cX10_isWithin 11 = .ok (.goto 4, 3) := by decide +kernel
theorem dX10_isWithin_14 : decode cX10_isWithin 14 = .ok (.iconst 0, 1) := by decide +kernel
theorem dX10_isWithin_15 : decode cX10_isWithin 15 = .ok (.ireturn, 1) := by decide +kernel
theorem dX10_faultOfWhat_0 : decode cX10_faultOfWhat 0 = .ok (.iload_n 0, 1) := by decide +kernel
theorem dX10_faultOfWhat_1 : decode cX10_faultOfWhat 1 = .ok (.iconst 0, 1) := by decide +kernel
theorem dX10_faultOfWhat_2 : decode cX10_faultOfWhat 2 = .ok (.iload_n 1, 1) := by decide +kernel
theorem dX10_faultOfWhat_3 : decode cX10_faultOfWhat 3 = .ok (.iconst 1, 1) := by decide +kernel
theorem dX10_faultOfWhat_4 : decode cX10_faultOfWhat 4 = .ok (.isub, 1) := by decide +kernel
theorem dX10_faultOfWhat_5 : decode cX10_faultOfWhat 5 = .ok (.invokestatic 261, 3) := by decide +kernel
theorem dX10_faultOfWhat_8 : decode cX10_faultOfWhat 8 = .ok (.ifCond .eq 7, 3) := by decide +kernel
theorem dX10_faultOfWhat_11 : decode cX10_faultOfWhat 11 = .ok (.iconst 0, 1) := by decide +kernel
theorem dX10_faultOfWhat_12 : decode cX10_faultOfWhat 12 = .ok (.goto 4, 3) := by decide +kernel
theorem dX10_faultOfWhat_15 : decode cX10_faultOfWhat 15 = .ok (.iconst 2, 1) := by decide +kernel
theorem dX10_faultOfWhat_16 : decode cX10_faultOfWhat 16 = .ok (.ireturn, 1) := by decide +kernel
theorem dX10_faultOfPrice_0 : decode cX10_faultOfPrice 0 = .ok (.iload_n 0, 1) := by decide +kernel
theorem dX10_faultOfPrice_1 : decode cX10_faultOfPrice 1 = .ok (.iconst 1, 1) := by decide +kernel
theorem dX10_faultOfPrice_2 : decode cX10_faultOfPrice 2 = .ok (.bipush 120, 2) := by decide +kernel
theorem dX10_faultOfPrice_4 : decode cX10_faultOfPrice 4 = .ok (.invokestatic 261, 3) := by decide +kernel
theorem dX10_faultOfPrice_7 : decode cX10_faultOfPrice 7 = .ok (.ifCond .eq 7, 3) := by decide +kernel
theorem dX10_faultOfPrice_10 : decode cX10_faultOfPrice 10 = .ok (.iconst 0, 1) := by decide +kernel
theorem dX10_faultOfPrice_11 : decode cX10_faultOfPrice 11 = .ok (.goto 4, 3) := by decide +kernel
theorem dX10_faultOfPrice_14 : decode cX10_faultOfPrice 14 = .ok (.iconst 2, 1) := by decide +kernel
theorem dX10_faultOfPrice_15 : decode cX10_faultOfPrice 15 = .ok (.ireturn, 1) := by decide +kernel
theorem dX10_wholeValue_0 : decode cX10_wholeValue 0 = .ok (.iload_n 1, 1) := by decide +kernel
theorem dX10_wholeValue_1 : decode cX10_wholeValue 1 = .ok (.bipush 11, 2) := by decide +kernel
theorem dX10_wholeValue_3 : decode cX10_wholeValue 3 = .ok (.if_icmp .ne 13, 3) := by decide +kernel
theorem dX10_wholeValue_6 : decode cX10_wholeValue 6 = .ok (.aload_n 0, 1) := by decide +kernel
theorem dX10_wholeValue_7 : decode cX10_wholeValue 7 = .ok (.getfield 36, 3) := by decide +kernel
theorem dX10_wholeValue_10 : decode cX10_wholeValue 10 = .ok (.getfield 265, 3) := by decide +kernel
theorem dX10_wholeValue_13 : decode cX10_wholeValue 13 = .ok (.goto 11, 3) := by decide +kernel
theorem dX10_wholeValue_16 : decode cX10_wholeValue 16 = .ok (.aload_n 0, 1) := by decide +kernel
theorem dX10_wholeValue_17 : decode cX10_wholeValue 17 = .ok (.getfield 10, 3) := by decide +kernel
theorem dX10_wholeValue_20 : decode cX10_wholeValue 20 = .ok (.iload_n 1, 1) := by decide +kernel
theorem dX10_wholeValue_21 : decode cX10_wholeValue 21 = .ok (.invokevirtual 268, 3) := by decide +kernel
theorem dX10_wholeValue_24 : decode cX10_wholeValue 24 = .ok (.ireturn, 1) := by decide +kernel
theorem dX10_bestShadeOfLastOrder_0 : decode cX10_bestShadeOfLastOrder 0 = .ok (.aload_n 0, 1) := by decide +kernel
theorem dX10_bestShadeOfLastOrder_1 : decode cX10_bestShadeOfLastOrder 1 = .ok (.getfield 16, 3) := by decide +kernel
theorem dX10_bestShadeOfLastOrder_4 : decode cX10_bestShadeOfLastOrder 4 = .ok (.getfield 104, 3) := by decide +kernel
theorem dX10_bestShadeOfLastOrder_7 : decode cX10_bestShadeOfLastOrder 7 = .ok (.getfield 239, 3) := by decide +kernel
theorem dX10_bestShadeOfLastOrder_10 : decode cX10_bestShadeOfLastOrder 10 = .ok (.iconst 1, 1) := by decide +kernel
theorem dX10_bestShadeOfLastOrder_11 : decode cX10_bestShadeOfLastOrder 11 = .ok (.isub, 1) := by decide +kernel
theorem dX10_bestShadeOfLastOrder_12 : decode cX10_bestShadeOfLastOrder 12 = .ok (.istore_n 2, 1) := by decide +kernel
theorem dX10_bestShadeOfLastOrder_13 : decode cX10_bestShadeOfLastOrder 13 = .ok (.iconst 0, 1) := by decide +kernel
theorem dX10_bestShadeOfLastOrder_14 : decode cX10_bestShadeOfLastOrder 14 = .ok (.istore_n 3, 1) := by decide +kernel
theorem dX10_bestShadeOfLastOrder_15 : decode cX10_bestShadeOfLastOrder 15 = .ok (.iconst 0, 1) := by decide +kernel
theorem dX10_bestShadeOfLastOrder_16 : decode cX10_bestShadeOfLastOrder 16 = .ok (.istore 4, 2) := by decide +kernel
theorem dX10_bestShadeOfLastOrder_18 : decode cX10_bestShadeOfLastOrder 18 = .ok (.iconst 0, 1) := by decide +kernel
theorem dX10_bestShadeOfLastOrder_19 : decode cX10_bestShadeOfLastOrder 19 = .ok (.istore 5, 2) := by decide +kernel
theorem dX10_bestShadeOfLastOrder_21 : decode cX10_bestShadeOfLastOrder 21 = .ok (.iload 5, 2) := by decide +kernel
theorem dX10_bestShadeOfLastOrder_23 : decode cX10_bestShadeOfLastOrder 23 = .ok (.bipush 50, 2) := by decide +kernel
theorem dX10_bestShadeOfLastOrder_25 : decode cX10_bestShadeOfLastOrder 25 = .ok (.if_icmp .gt 87, 3) := by decide +kernel
theorem dX10_bestShadeOfLastOrder_28 : decode cX10_bestShadeOfLastOrder 28 = .ok (.aload_n 0, 1) := by decide +kernel
theorem dX10_bestShadeOfLastOrder_29 : decode cX10_bestShadeOfLastOrder 29 = .ok (.getfield 16, 3) := by decide +kernel
theorem dX10_bestShadeOfLastOrder_32 : decode cX10_bestShadeOfLastOrder 32 = .ok (.getfield 104, 3) := by decide +kernel
theorem dX10_bestShadeOfLastOrder_35 : decode cX10_bestShadeOfLastOrder 35 = .ok (.getfield 269, 3) := by decide +kernel
theorem dX10_bestShadeOfLastOrder_38 : decode cX10_bestShadeOfLastOrder 38 = .ok (.iload_n 2, 1) := by decide +kernel
theorem dX10_bestShadeOfLastOrder_39 : decode cX10_bestShadeOfLastOrder 39 = .ok (.aload_n 0, 1) := by decide +kernel
theorem dX10_bestShadeOfLastOrder_40 : decode cX10_bestShadeOfLastOrder 40 = .ok (.getfield 16, 3) := by decide +kernel
theorem dX10_bestShadeOfLastOrder_43 : decode cX10_bestShadeOfLastOrder 43 = .ok (.getfield 52, 3) := by decide +kernel
theorem dX10_bestShadeOfLastOrder_46 : decode cX10_bestShadeOfLastOrder 46 = .ok (.iload_n 1, 1) := by decide +kernel
theorem dX10_bestShadeOfLastOrder_47 : decode cX10_bestShadeOfLastOrder 47 = .ok (.iload 5, 2) := by decide +kernel
theorem dX10_bestShadeOfLastOrder_49 : decode cX10_bestShadeOfLastOrder 49 = .ok (.invokevirtual 271, 3) := by decide +kernel
theorem dX10_bestShadeOfLastOrder_52 : decode cX10_bestShadeOfLastOrder 52 = .ok (.invokevirtual 74, 3) := by decide +kernel
theorem dX10_bestShadeOfLastOrder_55 : decode cX10_bestShadeOfLastOrder 55 = .ok (.aload_n 0, 1) := by decide +kernel
theorem dX10_bestShadeOfLastOrder_56 : decode cX10_bestShadeOfLastOrder 56 = .ok (.getfield 22, 3) := by decide +kernel
theorem dX10_bestShadeOfLastOrder_59 : decode cX10_bestShadeOfLastOrder 59 = .ok (.aload_n 0, 1) := by decide +kernel
theorem dX10_bestShadeOfLastOrder_60 : decode cX10_bestShadeOfLastOrder 60 = .ok (.getfield 16, 3) := by decide +kernel
theorem dX10_bestShadeOfLastOrder_63 : decode cX10_bestShadeOfLastOrder 63 = .ok (.invokevirtual 150, 3) := by decide +kernel
theorem dX10_bestShadeOfLastOrder_66 : decode cX10_bestShadeOfLastOrder 66 = .ok (.aload_n 0, 1) := by decide +kernel
theorem dX10_bestShadeOfLastOrder_67 : decode cX10_bestShadeOfLastOrder 67 = .ok (.getfield 22, 3) := by decide +kernel
theorem dX10_bestShadeOfLastOrder_70 : decode cX10_bestShadeOfLastOrder 70 = .ok (.aload_n 0, 1) := by decide +kernel
theorem dX10_bestShadeOfLastOrder_71 : decode cX10_bestShadeOfLastOrder 71 = .ok (.getfield 16, 3) := by decide +kernel
theorem dX10_bestShadeOfLastOrder_74 : decode cX10_bestShadeOfLastOrder 74 = .ok (.iload_n 1, 1) := by decide +kernel
theorem dX10_bestShadeOfLastOrder_75 : decode cX10_bestShadeOfLastOrder 75 = .ok (.aload_n 0, 1) := by decide +kernel
theorem dX10_bestShadeOfLastOrder_76 : decode cX10_bestShadeOfLastOrder 76 = .ok (.getfield 22, 3) := by decide +kernel
theorem dX10_bestShadeOfLastOrder_79 : decode cX10_bestShadeOfLastOrder 79 = .ok (.getfield 173, 3) := by decide +kernel
theorem dX10_bestShadeOfLastOrder_82 : decode cX10_bestShadeOfLastOrder 82 = .ok (.invokevirtual 177, 3) := by decide +kernel
theorem dX10_bestShadeOfLastOrder_85 : decode cX10_bestShadeOfLastOrder 85 = .ok (.istore 6, 2) := by decide +kernel
theorem dX10_bestShadeOfLastOrder_87 : decode cX10_bestShadeOfLastOrder 87 = .ok (.iload 5, 2) := by decide +kernel
theorem dX10_bestShadeOfLastOrder_89 : decode cX10_bestShadeOfLastOrder 89 = .ok (.ifCond .eq 10, 3) := by decide +kernel
theorem dX10_bestShadeOfLastOrder_92 : decode cX10_bestShadeOfLastOrder 92 = .ok (.iload 6, 2) := by decide +kernel
theorem dX10_bestShadeOfLastOrder_94 : decode cX10_bestShadeOfLastOrder 94 = .ok (.iload 4, 2) := by decide +kernel
theorem dX10_bestShadeOfLastOrder_96 : decode cX10_bestShadeOfLastOrder 96 = .ok (.if_icmp .le 10, 3) := by decide +kernel
theorem dX10_bestShadeOfLastOrder_99 : decode cX10_bestShadeOfLastOrder 99 = .ok (.iload 6, 2) := by decide +kernel
theorem dX10_bestShadeOfLastOrder_101 : decode cX10_bestShadeOfLastOrder 101 = .ok (.istore 4, 2) := by decide +kernel
theorem dX10_bestShadeOfLastOrder_103 : decode cX10_bestShadeOfLastOrder 103 = .ok (.iload 5, 2) := by decide +kernel
theorem dX10_bestShadeOfLastOrder_105 : decode cX10_bestShadeOfLastOrder 105 = .ok (.istore_n 3, 1) := by decide +kernel
theorem dX10_bestShadeOfLastOrder_106 : decode cX10_bestShadeOfLastOrder 106 = .ok (.iinc 5 1, 3) := by decide +kernel
theorem dX10_bestShadeOfLastOrder_109 : decode cX10_bestShadeOfLastOrder 109 = .ok (.goto (-88), 3) := by decide +kernel
theorem dX10_bestShadeOfLastOrder_112 : decode cX10_bestShadeOfLastOrder 112 = .ok (.iload_n 3, 1) := by decide +kernel
theorem dX10_bestShadeOfLastOrder_113 : decode cX10_bestShadeOfLastOrder 113 = .ok (.ireturn, 1) := by decide +kernel
theorem dX10_faultOfCommand_0 : decode cX10_faultOfCommand 0 = .ok (.aload_n 0, 1) := by decide +kernel
theorem dX10_faultOfCommand_1 : decode cX10_faultOfCommand 1 = .ok (.getfield 36, 3) := by decide +kernel
theorem dX10_faultOfCommand_4 : decode cX10_faultOfCommand 4 = .ok (.getfield 274, 3) := by decide +kernel
theorem dX10_faultOfCommand_7 : decode cX10_faultOfCommand 7 = .ok (.astore_n 1, 1) := by decide +kernel
theorem dX10_faultOfCommand_8 : decode cX10_faultOfCommand 8 = .ok (.aload_n 0, 1) := by decide +kernel
theorem dX10_faultOfCommand_9 : decode cX10_faultOfCommand 9 = .ok (.getfield 36, 3) := by decide +kernel
theorem dX10_faultOfCommand_12 : decode cX10_faultOfCommand 12 = .ok (.getfield 278, 3) := by decide +kernel
theorem dX10_faultOfCommand_15 : decode cX10_faultOfCommand 15 = .ok (.iconst 0, 1) := by decide +kernel
theorem dX10_faultOfCommand_16 : decode cX10_faultOfCommand 16 = .ok (.invokevirtual 68, 3) := by decide +kernel
theorem dX10_faultOfCommand_19 : decode cX10_faultOfCommand 19 = .ok (.istore_n 2, 1) := by decide +kernel
theorem dX10_faultOfCommand_20 : decode cX10_faultOfCommand 20 = .ok (.aload_n 0, 1) := by decide +kernel
theorem dX10_faultOfCommand_21 : decode cX10_faultOfCommand 21 = .ok (.getfield 36, 3) := by decide +kernel
theorem dX10_faultOfCommand_24 : decode cX10_faultOfCommand 24 = .ok (.getfield 278, 3) := by decide +kernel
theorem dX10_faultOfCommand_27 : decode cX10_faultOfCommand 27 = .ok (.iconst 1, 1) := by decide +kernel
theorem dX10_faultOfCommand_28 : decode cX10_faultOfCommand 28 = .ok (.invokevirtual 68, 3) := by decide +kernel
theorem dX10_faultOfCommand_31 : decode cX10_faultOfCommand 31 = .ok (.istore_n 3, 1) := by decide +kernel
theorem dX10_faultOfCommand_32 : decode cX10_faultOfCommand 32 = .ok (.aload_n 0, 1) := by decide +kernel
theorem dX10_faultOfCommand_33 : decode cX10_faultOfCommand 33 = .ok (.getfield 36, 3) := by decide +kernel
theorem dX10_faultOfCommand_36 : decode cX10_faultOfCommand 36 = .ok (.getfield 278, 3) := by decide +kernel
theorem dX10_faultOfCommand_39 : decode cX10_faultOfCommand 39 = .ok (.iconst 2, 1) := by decide +kernel
theorem dX10_faultOfCommand_40 : decode cX10_faultOfCommand 40 = .ok (.invokevirtual 68, 3) := by decide +kernel
theorem dX10_faultOfCommand_43 : decode cX10_faultOfCommand 43 = .ok (.istore 4, 2) := by decide +kernel
theorem dX10_faultOfCommand_45 : decode cX10_faultOfCommand 45 = .ok (.aload_n 1, 1) := by decide +kernel
theorem dX10_faultOfCommand_46 : decode cX10_faultOfCommand 46 = .ok (.ifnonnull 5, 3) := by decide +kernel
theorem dX10_faultOfCommand_49 : decode cX10_faultOfCommand 49 = .ok (.iconst 3, 1) := by decide +kernel
theorem dX10_faultOfCommand_50 : decode cX10_faultOfCommand 50 = .ok (.ireturn, 1) := by decide +kernel
theorem dX10_faultOfCommand_51 : decode cX10_faultOfCommand 51 = .ok (.getstatic 281, 3) := by decide +kernel
theorem dX10_faultOfCommand_54 : decode cX10_faultOfCommand 54 = .ok (.aload_n 1, 1) := by decide +kernel
theorem dX10_faultOfCommand_55 : decode cX10_faultOfCommand 55 = .ok (.invokevirtual 287, 3) := by decide +kernel
theorem dX10_faultOfCommand_58 : decode cX10_faultOfCommand 58 = .ok (.iaload, 1) := by decide +kernel
theorem dX10_faultOfCommand_59 : decode cX10_faultOfCommand 59 = .ok (.tableswitch 117 1 7 #[41, 51, 61, 73, 83, 95, 107], 41) := by decide +kernel
theorem dX10_faultOfCommand_100 : decode cX10_faultOfCommand 100 = .ok (.aload_n 0, 1) := by decide +kernel
theorem dX10_faultOfCommand_101 : decode cX10_faultOfCommand 101 = .ok (.getfield 10, 3) := by decide +kernel
theorem dX10_faultOfCommand_104 : decode cX10_faultOfCommand 104 = .ok (.iconst 0, 1) := by decide +kernel
theorem dX10_faultOfCommand_105 : decode cX10_faultOfCommand 105 = .ok (.iload_n 2, 1) := by decide +kernel
theorem dX10_faultOfCommand_106 : decode cX10_faultOfCommand 106 = .ok (.invokevirtual 40, 3) := by decide +kernel
theorem dX10_faultOfCommand_109 : decode cX10_faultOfCommand 109 = .ok (.ireturn, 1) := by decide +kernel
theorem dX10_faultOfCommand_110 : decode cX10_faultOfCommand 110 = .ok (.aload_n 0, 1) := by decide +kernel
theorem dX10_faultOfCommand_111 : decode cX10_faultOfCommand 111 = .ok (.getfield 10, 3) := by decide +kernel
theorem dX10_faultOfCommand_114 : decode cX10_faultOfCommand 114 = .ok (.iconst 1, 1) := by decide +kernel
theorem dX10_faultOfCommand_115 : decode cX10_faultOfCommand 115 = .ok (.iload_n 2, 1) := by decide +kernel
theorem dX10_faultOfCommand_116 : decode cX10_faultOfCommand 116 = .ok (.invokevirtual 40, 3) := by decide +kernel
theorem dX10_faultOfCommand_119 : decode cX10_faultOfCommand 119 = .ok (.ireturn, 1) := by decide +kernel
theorem dX10_faultOfCommand_120 : decode cX10_faultOfCommand 120 = .ok (.aload_n 0, 1) := by decide +kernel
theorem dX10_faultOfCommand_121 : decode cX10_faultOfCommand 121 = .ok (.getfield 10, 3) := by decide +kernel
theorem dX10_faultOfCommand_124 : decode cX10_faultOfCommand 124 = .ok (.iload_n 2, 1) := by decide +kernel
theorem dX10_faultOfCommand_125 : decode cX10_faultOfCommand 125 = .ok (.iload_n 3, 1) := by decide +kernel
theorem dX10_faultOfCommand_126 : decode cX10_faultOfCommand 126 = .ok (.iload 4, 2) := by decide +kernel
theorem dX10_faultOfCommand_128 : decode cX10_faultOfCommand 128 = .ok (.invokevirtual 78, 3) := by decide +kernel
theorem dX10_faultOfCommand_131 : decode cX10_faultOfCommand 131 = .ok (.ireturn, 1) := by decide +kernel
theorem dX10_faultOfCommand_132 : decode cX10_faultOfCommand 132 = .ok (.aload_n 0, 1) := by decide +kernel
theorem dX10_faultOfCommand_133 : decode cX10_faultOfCommand 133 = .ok (.getfield 10, 3) := by decide +kernel
theorem dX10_faultOfCommand_136 : decode cX10_faultOfCommand 136 = .ok (.iload_n 2, 1) := by decide +kernel
theorem dX10_faultOfCommand_137 : decode cX10_faultOfCommand 137 = .ok (.iload_n 3, 1) := by decide +kernel
theorem dX10_faultOfCommand_138 : decode cX10_faultOfCommand 138 = .ok (.invokevirtual 95, 3) := by decide +kernel
theorem dX10_faultOfCommand_141 : decode cX10_faultOfCommand 141 = .ok (.ireturn, 1) := by decide +kernel
theorem dX10_faultOfCommand_142 : decode cX10_faultOfCommand 142 = .ok (.aload_n 0, 1) := by decide +kernel
theorem dX10_faultOfCommand_143 : decode cX10_faultOfCommand 143 = .ok (.getfield 10, 3) := by decide +kernel
theorem dX10_faultOfCommand_146 : decode cX10_faultOfCommand 146 = .ok (.iload_n 2, 1) := by decide +kernel
theorem dX10_faultOfCommand_147 : decode cX10_faultOfCommand 147 = .ok (.iload_n 3, 1) := by decide +kernel
theorem dX10_faultOfCommand_148 : decode cX10_faultOfCommand 148 = .ok (.iload 4, 2) := by decide +kernel
theorem dX10_faultOfCommand_150 : decode cX10_faultOfCommand 150 = .ok (.invokevirtual 101, 3) := by decide +kernel
theorem dX10_faultOfCommand_153 : decode cX10_faultOfCommand 153 = .ok (.ireturn, 1) := by decide +kernel
theorem dX10_faultOfCommand_154 : decode cX10_faultOfCommand 154 = .ok (.aload_n 0, 1) := by decide +kernel
theorem dX10_faultOfCommand_155 : decode cX10_faultOfCommand 155 = .ok (.getfield 10, 3) := by decide +kernel
theorem dX10_faultOfCommand_158 : decode cX10_faultOfCommand 158 = .ok (.getfield 104, 3) := by decide +kernel
theorem dX10_faultOfCommand_161 : decode cX10_faultOfCommand 161 = .ok (.iload_n 2, 1) := by decide +kernel
theorem dX10_faultOfCommand_162 : decode cX10_faultOfCommand 162 = .ok (.invokevirtual 108, 3) := by decide +kernel
theorem dX10_faultOfCommand_165 : decode cX10_faultOfCommand 165 = .ok (.ireturn, 1) := by decide +kernel
theorem dX10_faultOfCommand_166 : decode cX10_faultOfCommand 166 = .ok (.aload_n 0, 1) := by decide +kernel
theorem dX10_faultOfCommand_167 : decode cX10_faultOfCommand 167 = .ok (.getfield 10, 3) := by decide +kernel
theorem dX10_faultOfCommand_170 : decode cX10_faultOfCommand 170 = .ok (.iload_n 2, 1) := by decide +kernel
theorem dX10_faultOfCommand_171 : decode cX10_faultOfCommand 171 = .ok (.iload_n 3, 1) := by decide +kernel
theorem dX10_faultOfCommand_172 : decode cX10_faultOfCommand 172 = .ok (.invokevirtual 89, 3) := by decide +kernel
theorem dX10_faultOfCommand_175 : decode cX10_faultOfCommand 175 = .ok (.ireturn, 1) := by decide +kernel
theorem dX10_faultOfCommand_176 : decode cX10_faultOfCommand 176 = .ok (.aload_n 0, 1) := by decide +kernel
theorem dX10_faultOfCommand_177 : decode cX10_faultOfCommand 177 = .ok (.getfield 10, 3) := by decide +kernel
theorem dX10_faultOfCommand_180 : decode cX10_faultOfCommand 180 = .ok (.invokevirtual 116, 3) := by decide +kernel
theorem dX10_faultOfCommand_183 : decode cX10_faultOfCommand 183 = .ok (.ireturn, 1) := by decide +kernel
theorem dX10_carryOutCommand_0 : decode cX10_carryOutCommand 0 = .ok (.aload_n 0, 1) := by decide +kernel
theorem dX10_carryOutCommand_1 : decode cX10_carryOutCommand 1 = .ok (.getfield 36, 3) := by decide +kernel
theorem dX10_carryOutCommand_4 : decode cX10_carryOutCommand 4 = .ok (.getfield 274, 3) := by decide +kernel
theorem dX10_carryOutCommand_7 : decode cX10_carryOutCommand 7 = .ok (.astore_n 1, 1) := by decide +kernel
theorem dX10_carryOutCommand_8 : decode cX10_carryOutCommand 8 = .ok (.aload_n 0, 1) := by decide +kernel
theorem dX10_carryOutCommand_9 : decode cX10_carryOutCommand 9 = .ok (.getfield 36, 3) := by decide +kernel
theorem dX10_carryOutCommand_12 : decode cX10_carryOutCommand 12 = .ok (.getfield 278, 3) := by decide +kernel
theorem dX10_carryOutCommand_15 : decode cX10_carryOutCommand 15 = .ok (.iconst 0, 1) := by decide +kernel
theorem dX10_carryOutCommand_16 : decode cX10_carryOutCommand 16 = .ok (.invokevirtual 68, 3) := by decide +kernel
theorem dX10_carryOutCommand_19 : decode cX10_carryOutCommand 19 = .ok (.istore_n 2, 1) := by decide +kernel
theorem dX10_carryOutCommand_20 : decode cX10_carryOutCommand 20 = .ok (.aload_n 0, 1) := by decide +kernel
theorem dX10_carryOutCommand_21 : decode cX10_carryOutCommand 21 = .ok (.getfield 36, 3) := by decide +kernel
theorem dX10_carryOutCommand_24 : decode cX10_carryOutCommand 24 = .ok (.getfield 278, 3) := by decide +kernel
theorem dX10_carryOutCommand_27 : decode cX10_carryOutCommand 27 = .ok (.iconst 1, 1) := by decide +kernel
theorem dX10_carryOutCommand_28 : decode cX10_carryOutCommand 28 = .ok (.invokevirtual 68, 3) := by decide +kernel
theorem dX10_carryOutCommand_31 : decode cX10_carryOutCommand 31 = .ok (.istore_n 3, 1) := by decide +kernel
theorem dX10_carryOutCommand_32 : decode cX10_carryOutCommand 32 = .ok (.aload_n 0, 1) := by decide +kernel
theorem dX10_carryOutCommand_33 : decode cX10_carryOutCommand 33 = .ok (.getfield 36, 3) := by decide +kernel
theorem dX10_carryOutCommand_36 : decode cX10_carryOutCommand 36 = .ok (.getfield 278, 3) := by decide +kernel
theorem dX10_carryOutCommand_39 : decode cX10_carryOutCommand 39 = .ok (.iconst 2, 1) := by decide +kernel
theorem dX10_carryOutCommand_40 : decode cX10_carryOutCommand 40 = .ok (.invokevirtual 68, 3) := by decide +kernel
theorem dX10_carryOutCommand_43 : decode cX10_carryOutCommand 43 = .ok (.istore 4, 2) := by decide +kernel
theorem dX10_carryOutCommand_45 : decode cX10_carryOutCommand 45 = .ok (.aload_n 1, 1) := by decide +kernel
theorem dX10_carryOutCommand_46 : decode cX10_carryOutCommand 46 = .ok (.ifnonnull 4, 3) := by decide +kernel
theorem dX10_carryOutCommand_49 : decode cX10_carryOutCommand 49 = .ok (.return_, 1) := by decide +kernel
theorem dX10_carryOutCommand_50 : decode cX10_carryOutCommand 50 = .ok (.getstatic 281, 3) := by decide +kernel
theorem dX10_carryOutCommand_53 : decode cX10_carryOutCommand 53 = .ok (.aload_n 1, 1) := by decide +kernel
theorem dX10_carryOutCommand_54 : decode cX10_carryOutCommand 54 = .ok (.invokevirtual 287, 3) := by decide +kernel
theorem dX10_carryOutCommand_57 : decode cX10_carryOutCommand 57 = .ok (.iaload, 1) := by decide +kernel
theorem dX10_carryOutCommand_58 : decode cX10_carryOutCommand 58 = .ok (.tableswitch 158 1 7 #[42, 58, 74, 91, 115, 130, 145], 42) := by decide +kernel
theorem dX10_carryOutCommand_100 : decode cX10_carryOutCommand 100 = .ok (.aload_n 0, 1) := by decide +kernel
theorem dX10_carryOutCommand_101 : decode cX10_carryOutCommand 101 = .ok (.getfield 10, 3) := by decide +kernel
theorem dX10_carryOutCommand_104 : decode cX10_carryOutCommand 104 = .ok (.getfield 52, 3) := by decide +kernel
theorem dX10_carryOutCommand_107 : decode cX10_carryOutCommand 107 = .ok (.iconst 0, 1) := by decide +kernel
theorem dX10_carryOutCommand_108 : decode cX10_carryOutCommand 108 = .ok (.iload_n 2, 1) := by decide +kernel
theorem dX10_carryOutCommand_109 : decode cX10_carryOutCommand 109 = .ok (.invokevirtual 56, 3) := by decide +kernel
theorem dX10_carryOutCommand_112 : decode cX10_carryOutCommand 112 = .ok (.pop, 1) := by decide +kernel
theorem dX10_carryOutCommand_113 : decode cX10_carryOutCommand 113 = .ok (.goto 115, 3) := by decide +kernel
theorem dX10_carryOutCommand_116 : decode cX10_carryOutCommand 116 = .ok (.aload_n 0, 1) := by decide +kernel
theorem dX10_carryOutCommand_117 : decode cX10_carryOutCommand 117 = .ok (.getfield 10, 3) := by decide +kernel
theorem dX10_carryOutCommand_120 : decode cX10_carryOutCommand 120 = .ok (.getfield 52, 3) := by decide +kernel
theorem dX10_carryOutCommand_123 : decode cX10_carryOutCommand 123 = .ok (.iconst 1, 1) := by decide +kernel
theorem dX10_carryOutCommand_124 : decode cX10_carryOutCommand 124 = .ok (.iload_n 2, 1) := by decide +kernel
theorem dX10_carryOutCommand_125 : decode cX10_carryOutCommand 125 = .ok (.invokevirtual 56, 3) := by decide +kernel
theorem dX10_carryOutCommand_128 : decode cX10_carryOutCommand 128 = .ok (.pop, 1) := by decide +kernel
theorem dX10_carryOutCommand_129 : decode cX10_carryOutCommand 129 = .ok (.goto 99, 3) := by decide +kernel
theorem dX10_carryOutCommand_132 : decode cX10_carryOutCommand 132 = .ok (.aload_n 0, 1) := by decide +kernel
theorem dX10_carryOutCommand_133 : decode cX10_carryOutCommand 133 = .ok (.getfield 10, 3) := by decide +kernel
theorem dX10_carryOutCommand_136 : decode cX10_carryOutCommand 136 = .ok (.getfield 52, 3) := by decide +kernel
theorem dX10_carryOutCommand_139 : decode cX10_carryOutCommand 139 = .ok (.iload_n 2, 1) := by decide +kernel
theorem dX10_carryOutCommand_140 : decode cX10_carryOutCommand 140 = .ok (.iload_n 3, 1) := by decide +kernel
theorem dX10_carryOutCommand_141 : decode cX10_carryOutCommand 141 = .ok (.iload 4, 2) := by decide +kernel
theorem dX10_carryOutCommand_143 : decode cX10_carryOutCommand 143 = .ok (.invokevirtual 82, 3) := by decide +kernel
theorem dX10_carryOutCommand_146 : decode cX10_carryOutCommand 146 = .ok (.goto 82, 3) := by decide +kernel
theorem dX10_carryOutCommand_149 : decode cX10_carryOutCommand 149 = .ok (.aload_n 0, 1) := by decide +kernel
theorem dX10_carryOutCommand_150 : decode cX10_carryOutCommand 150 = .ok (.getfield 10, 3) := by decide +kernel
theorem dX10_carryOutCommand_153 : decode cX10_carryOutCommand 153 = .ok (.iload_n 2, 1) := by decide +kernel
theorem dX10_carryOutCommand_154 : decode cX10_carryOutCommand 154 = .ok (.aload_n 0, 1) := by decide +kernel
theorem dX10_carryOutCommand_155 : decode cX10_carryOutCommand 155 = .ok (.getfield 10, 3) := by decide +kernel
theorem dX10_carryOutCommand_158 : decode cX10_carryOutCommand 158 = .ok (.getfield 52, 3) := by decide +kernel
theorem dX10_carryOutCommand_161 : decode cX10_carryOutCommand 161 = .ok (.iload_n 2, 1) := by decide +kernel
theorem dX10_carryOutCommand_162 : decode cX10_carryOutCommand 162 = .ok (.invokevirtual 86, 3) := by decide +kernel
theorem dX10_carryOutCommand_165 : decode cX10_carryOutCommand 165 = .ok (.iload_n 3, 1) := by decide +kernel
theorem dX10_carryOutCommand_166 : decode cX10_carryOutCommand 166 = .ok (.invokevirtual 98, 3) := by decide +kernel
theorem dX10_carryOutCommand_169 : decode cX10_carryOutCommand 169 = .ok (.pop, 1) := by decide +kernel
theorem dX10_carryOutCommand_170 : decode cX10_carryOutCommand 170 = .ok (.goto 58, 3) := by decide +kernel
theorem dX10_carryOutCommand_173 : decode cX10_carryOutCommand 173 = .ok (.aload_n 0, 1) := by decide +kernel
theorem dX10_carryOutCommand_174 : decode cX10_carryOutCommand 174 = .ok (.getfield 10, 3) := by decide +kernel
theorem dX10_carryOutCommand_177 : decode cX10_carryOutCommand 177 = .ok (.iload_n 2, 1) := by decide +kernel
theorem dX10_carryOutCommand_178 : decode cX10_carryOutCommand 178 = .ok (.iload_n 3, 1) := by decide +kernel
theorem dX10_carryOutCommand_179 : decode cX10_carryOutCommand 179 = .ok (.iload 4, 2) := by decide +kernel
theorem dX10_carryOutCommand_181 : decode cX10_carryOutCommand 181 = .ok (.invokevirtual 98, 3) := by decide +kernel
theorem dX10_carryOutCommand_184 : decode cX10_carryOutCommand 184 = .ok (.pop, 1) := by decide +kernel
theorem dX10_carryOutCommand_185 : decode cX10_carryOutCommand 185 = .ok (.goto 43, 3) := by decide +kernel
theorem dX10_carryOutCommand_188 : decode cX10_carryOutCommand 188 = .ok (.aload_n 0, 1) := by decide +kernel
theorem dX10_carryOutCommand_189 : decode cX10_carryOutCommand 189 = .ok (.getfield 10, 3) := by decide +kernel
theorem dX10_carryOutCommand_192 : decode cX10_carryOutCommand 192 = .ok (.getfield 104, 3) := by decide +kernel
theorem dX10_carryOutCommand_195 : decode cX10_carryOutCommand 195 = .ok (.iload_n 2, 1) := by decide +kernel
theorem dX10_carryOutCommand_196 : decode cX10_carryOutCommand 196 = .ok (.invokevirtual 113, 3) := by decide +kernel
theorem dX10_carryOutCommand_199 : decode cX10_carryOutCommand 199 = .ok (.pop, 1) := by decide +kernel
theorem dX10_carryOutCommand_200 : decode cX10_carryOutCommand 200 = .ok (.goto 28, 3) := by decide +kernel
theorem dX10_carryOutCommand_203 : decode cX10_carryOutCommand 203 = .ok (.aload_n 0, 1) := by decide +kernel
theorem dX10_carryOutCommand_204 : decode cX10_carryOutCommand 204 = .ok (.getfield 10, 3) := by decide +kernel
theorem dX10_carryOutCommand_207 : decode cX10_carryOutCommand 207 = .ok (.iload_n 2, 1) := by decide +kernel
theorem dX10_carryOutCommand_208 : decode cX10_carryOutCommand 208 = .ok (.iload_n 3, 1) := by decide +kernel
theorem dX10_carryOutCommand_209 : decode cX10_carryOutCommand 209 = .ok (.invokevirtual 92, 3) := by decide +kernel
theorem dX10_carryOutCommand_212 : decode cX10_carryOutCommand 212 = .ok (.pop, 1) := by decide +kernel
theorem dX10_carryOutCommand_213 : decode cX10_carryOutCommand 213 = .ok (.goto 15, 3) := by decide +kernel
theorem dX10_carryOutCommand_216 : decode cX10_carryOutCommand 216 = .ok (.aload_n 0, 1) := by decide +kernel
theorem dX10_carryOutCommand_217 : decode cX10_carryOutCommand 217 = .ok (.getfield 10, 3) := by decide +kernel
theorem dX10_carryOutCommand_220 : decode cX10_carryOutCommand 220 = .ok (.aload_n 0, 1) := by decide +kernel
theorem dX10_carryOutCommand_221 : decode cX10_carryOutCommand 221 = .ok (.getfield 22, 3) := by decide +kernel
theorem dX10_carryOutCommand_224 : decode cX10_carryOutCommand 224 = .ok (.invokevirtual 120, 3) := by decide +kernel
theorem dX10_carryOutCommand_227 : decode cX10_carryOutCommand 227 = .ok (.pop, 1) := by decide +kernel
theorem dX10_carryOutCommand_228 : decode cX10_carryOutCommand 228 = .ok (.return_, 1) := by decide +kernel
theorem dX11_init_0 : decode cX11_init 0 = .ok (.aload_n 0, 1) := by decide +kernel
theorem dX11_init_1 : decode cX11_init 1 = .ok (.invokespecial 1, 3) := by decide +kernel
theorem dX11_init_4 : decode cX11_init 4 = .ok (.aload_n 0, 1) := by decide +kernel
theorem dX11_init_5 : decode cX11_init 5 = .ok (.sipush 267, 3) := by decide +kernel
theorem dX11_init_8 : decode cX11_init 8 = .ok (.newarray .int, 2) := by decide +kernel
theorem dX11_init_10 : decode cX11_init 10 = .ok (.putfield 7, 3) := by decide +kernel
theorem dX11_init_13 : decode cX11_init 13 = .ok (.aload_n 0, 1) := by decide +kernel
theorem dX11_init_14 : decode cX11_init 14 = .ok (.sipush 1335, 3) := by decide +kernel
theorem dX11_init_17 : decode cX11_init 17 = .ok (.newarray .int, 2) := by decide +kernel
theorem dX11_init_19 : decode cX11_init 19 = .ok (.putfield 13, 3) := by decide +kernel
theorem dX11_init_22 : decode cX11_init 22 = .ok (.aload_n 0, 1) := by decide +kernel
theorem dX11_init_23 : decode cX11_init 23 = .ok (.sipush 150, 3) := by decide +kernel
theorem dX11_init_26 : decode cX11_init 26 = .ok (.newarray .int, 2) := by decide +kernel
theorem dX11_init_28 : decode cX11_init 28 = .ok (.putfield 16, 3) := by decide +kernel
theorem dX11_init_31 : decode cX11_init 31 = .ok (.aload_n 0, 1) := by decide +kernel
theorem dX11_init_32 : decode cX11_init 32 = .ok (.iconst 3, 1) := by decide +kernel
theorem dX11_init_33 : decode cX11_init 33 = .ok (.newarray .int, 2) := by decide +kernel
theorem dX11_init_35 : decode cX11_init 35 = .ok (.putfield 19, 3) := by decide +kernel
theorem dX11_init_38 : decode cX11_init 38 = .ok (.aload_n 0, 1) := by decide +kernel
theorem dX11_init_39 : decode cX11_init 39 = .ok (.bipush 20, 2) := by decide +kernel
theorem dX11_init_41 : decode cX11_init 41 = .ok (.newarray .int, 2) := by decide +kernel
theorem dX11_init_43 : decode cX11_init 43 = .ok (.putfield 22, 3) := by decide +kernel
theorem dX11_init_46 : decode cX11_init 46 = .ok (.aload_n 0, 1) := by decide +kernel
theorem dX11_init_47 : decode cX11_init 47 = .ok (.getfield 7, 3) := by decide +kernel
theorem dX11_init_50 : decode cX11_init 50 = .ok (.iconst 3, 1) := by decide +kernel
theorem dX11_init_51 : decode cX11_init 51 = .ok (.iconst 5, 1) := by decide +kernel
theorem dX11_init_52 : decode cX11_init 52 = .ok (.iastore, 1) := by decide +kernel
theorem dX11_init_53 : decode cX11_init 53 = .ok (.aload_n 0, 1) := by decide +kernel
theorem dX11_init_54 : decode cX11_init 54 = .ok (.getfield 7, 3) := by decide +kernel
theorem dX11_init_57 : decode cX11_init 57 = .ok (.iconst 4, 1) := by decide +kernel
theorem dX11_init_58 : decode cX11_init 58 = .ok (.iconst 3, 1) := by decide +kernel
theorem dX11_init_59 : decode cX11_init 59 = .ok (.iastore, 1) := by decide +kernel
theorem dX11_init_60 : decode cX11_init 60 = .ok (.aload_n 0, 1) := by decide +kernel
theorem dX11_init_61 : decode cX11_init 61 = .ok (.getfield 7, 3) := by decide +kernel
theorem dX11_init_64 : decode cX11_init 64 = .ok (.bipush 8, 2) := by decide +kernel
theorem dX11_init_66 : decode cX11_init 66 = .ok (.sipush (-10000), 3) := by decide +kernel
theorem dX11_init_69 : decode cX11_init 69 = .ok (.iastore, 1) := by decide +kernel
theorem dX11_init_70 : decode cX11_init 70 = .ok (.return_, 1) := by decide +kernel
theorem dX11_thrown_0 : decode cX11_thrown 0 = .ok (.aload_n 0, 1) := by decide +kernel
theorem dX11_thrown_1 : decode cX11_thrown 1 = .ok (.getfield 25, 3) := by decide +kernel
theorem dX11_thrown_4 : decode cX11_thrown 4 = .ok (.ireturn, 1) := by decide +kernel
theorem dX11_isIn_0 : decode cX11_isIn 0 = .ok (.iload_n 0, 1) := by decide +kernel
theorem dX11_isIn_1 : decode cX11_isIn 1 = .ok (.iload_n 1, 1) := by decide +kernel
theorem dX11_isIn_2 : decode cX11_isIn 2 = .ok (.if_icmp .lt 12, 3) := by decide +kernel
theorem dX11_isIn_5 : decode cX11_isIn 5 = .ok (.iload_n 0, 1) := by decide +kernel
theorem dX11_isIn_6 : decode cX11_isIn 6 = .ok (.iload_n 2, 1) := by decide +kernel
theorem dX11_isIn_7 : decode cX11_isIn 7 = .ok (.if_icmp .gt 7, 3) := by decide +kernel
theorem dX11_isIn_10 : decode cX11_isIn 10 = .ok (.iconst 1, 1) := by decide +kernel
theorem dX11_isIn_11 : decode cX11_isIn 11 = .ok (.goto 4, 3) := by decide +kernel
theorem dX11_isIn_14 : decode cX11_isIn 14 = .ok (.iconst 0, 1) := by decide +kernel
theorem dX11_isIn_15 : decode cX11_isIn 15 = .ok (.ireturn, 1) := by decide +kernel
theorem dX11_ofT_0 : decode cX11_ofT 0 = .ok (.aload_n 0, 1) := by decide +kernel
theorem dX11_ofT_1 : decode cX11_ofT 1 = .ok (.getfield 7, 3) := by decide +kernel
theorem dX11_ofT_4 : decode cX11_ofT 4 = .ok (.bipush 11, 2) := by decide +kernel
theorem dX11_ofT_6 : decode cX11_ofT 6 = .ok (.bipush 7, 2) := by decide +kernel
theorem dX11_ofT_8 : decode cX11_ofT 8 = .ok (.iload_n 1, 1) := by decide +kernel
theorem dX11_ofT_9 : decode cX11_ofT 9 = .ok (.imul, 1) := by decide +kernel
theorem dX11_ofT_10 : decode cX11_ofT 10 = .ok (.iadd, 1) := by decide +kernel
theorem dX11_ofT_11 : decode cX11_ofT 11 = .ok (.iload_n 2, 1) := by decide +kernel
theorem dX11_ofT_12 : decode cX11_ofT 12 = .ok (.iadd, 1) := by decide +kernel
theorem dX11_ofT_13 : decode cX11_ofT 13 = .ok (.iaload, 1) := by decide +kernel
theorem dX11_ofT_14 : decode cX11_ofT 14 = .ok (.ireturn, 1) := by decide +kernel
theorem dX11_setsT_0 : decode cX11_setsT 0 = .ok (.aload_n 0, 1) := by decide +kernel
theorem dX11_setsT_1 : decode cX11_setsT 1 = .ok (.getfield 7, 3) := by decide +kernel
theorem dX11_setsT_4 : decode cX11_setsT 4 = .ok (.bipush 11, 2) := by decide +kernel
theorem dX11_setsT_6 : decode cX11_setsT 6 = .ok (.bipush 7, 2) := by decide +kernel
theorem dX11_setsT_8 : decode cX11_setsT 8 = .ok (.iload_n 1, 1) := by decide +kernel
theorem dX11_setsT_9 : decode cX11_setsT 9 = .ok (.imul, 1) := by decide +kernel
theorem dX11_setsT_10 : decode cX11_setsT 10 = .ok (.iadd, 1) := by decide +kernel
theorem dX11_setsT_11 : decode cX11_setsT 11 = .ok (.iload_n 2, 1) := by decide +kernel
theorem dX11_setsT_12 : decode cX11_setsT 12 = .ok (.iadd, 1) := by decide +kernel
theorem dX11_setsT_13 : decode cX11_setsT 13 = .ok (.iload_n 3, 1) := by decide +kernel
theorem dX11_setsT_14 : decode cX11_setsT 14 = .ok (.iastore, 1) := by decide +kernel
theorem dX11_setsT_15 : decode cX11_setsT 15 = .ok (.return_, 1) := by decide +kernel
theorem dX11_ofO_0 : decode cX11_ofO 0 = .ok (.aload_n 0, 1) := by decide +kernel
theorem dX11_ofO_1 : decode cX11_ofO 1 = .ok (.getfield 7, 3) := by decide +kernel
theorem dX11_ofO_4 : decode cX11_ofO 4 = .ok (.bipush 67, 2) := by decide +kernel
theorem dX11_ofO_6 : decode cX11_ofO 6 = .ok (.iconst 5, 1) := by decide +kernel
theorem dX11_ofO_7 : decode cX11_ofO 7 = .ok (.iload_n 1, 1) := by decide +kernel
theorem dX11_ofO_8 : decode cX11_ofO 8 = .ok (.imul, 1) := by decide +kernel
theorem dX11_ofO_9 : decode cX11_ofO 9 = .ok (.iadd, 1) := by decide +kernel
theorem dX11_ofO_10 : decode cX11_ofO 10 = .ok (.iload_n 2, 1) := by decide +kernel
theorem dX11_ofO_11 : decode cX11_ofO 11 = .ok (.iadd, 1) := by decide +kernel
theorem dX11_ofO_12 : decode cX11_ofO 12 = .ok (.iaload, 1) := by decide +kernel
theorem dX11_ofO_13 : decode cX11_ofO 13 = .ok (.ireturn, 1) := by decide +kernel
theorem dX11_setsO_0 : decode cX11_setsO 0 = .ok (.aload_n 0, 1) := by decide +kernel
theorem dX11_setsO_1 : decode cX11_setsO 1 = .ok (.getfield 7, 3) := by decide +kernel
theorem dX11_setsO_4 : decode cX11_setsO 4 = .ok (.bipush 67, 2) := by decide +kernel
theorem dX11_setsO_6 : decode cX11_setsO 6 = .ok (.iconst 5, 1) := by decide +kernel
theorem dX11_setsO_7 : decode cX11_setsO 7 = .ok (.iload_n 1, 1) := by decide +kernel
theorem dX11_setsO_8 : decode cX11_setsO 8 = .ok (.imul, 1) := by decide +kernel
theorem dX11_setsO_9 : decode cX11_setsO 9 = .ok (.iadd, 1) := by decide +kernel
theorem dX11_setsO_10 : decode cX11_setsO 10 = .ok (.iload_n 2, 1) := by decide +kernel
theorem dX11_setsO_11 : decode cX11_setsO 11 = .ok (.iadd, 1) := by decide +kernel
theorem dX11_setsO_12 : decode cX11_setsO 12 = .ok (.iload_n 3, 1) := by decide +kernel
theorem dX11_setsO_13 : decode cX11_setsO 13 = .ok (.iastore, 1) := by decide +kernel
theorem dX11_setsO_14 : decode cX11_setsO 14 = .ok (.return_, 1) := by decide +kernel
theorem dX11_isTrader_0 : decode cX11_isTrader 0 = .ok (.iload_n 1, 1) := by decide +kernel
theorem dX11_isTrader_1 : decode cX11_isTrader 1 = .ok (.iconst 0, 1) := by decide +kernel
theorem dX11_isTrader_2 : decode cX11_isTrader 2 = .ok (.aload_n 0, 1) := by decide +kernel
theorem dX11_isTrader_3 : decode cX11_isTrader 3 = .ok (.getfield 7, 3) := by decide +kernel
theorem dX11_isTrader_6 : decode cX11_isTrader 6 = .ok (.iconst 0, 1) := by decide +kernel
theorem dX11_isTrader_7 : decode cX11_isTrader 7 = .ok (.iaload, 1) := by decide +kernel
theorem dX11_isTrader_8 : decode cX11_isTrader 8 = .ok (.iconst 1, 1) := by decide +kernel
theorem dX11_isTrader_9 : decode cX11_isTrader 9 = .ok (.isub, 1) := by decide +kernel
theorem dX11_isTrader_10 : decode cX11_isTrader 10 = .ok (.invokestatic 29, 3) := by decide +kernel
theorem dX11_isTrader_13 : decode cX11_isTrader 13 = .ok (.ireturn, 1) := by decide +kernel
theorem dX11_find_0 : decode cX11_find 0 = .ok (.iconst 0, 1) := by decide +kernel
theorem dX11_find_1 : decode cX11_find 1 = .ok (.istore_n 2, 1) := by decide +kernel
theorem dX11_find_2 : decode cX11_find 2 = .ok (.iload_n 2, 1) := by decide +kernel
theorem dX11_find_3 : decode cX11_find 3 = .ok (.aload_n 0, 1) := by decide +kernel
theorem dX11_find_4 : decode cX11_find 4 = .ok (.getfield 7, 3) := by decide +kernel
theorem dX11_find_7 : decode cX11_find 7 = .ok (.iconst 1, 1) := by decide +kernel
theorem dX11_find_8 : decode cX11_find 8 = .ok (.iaload, 1) := by decide +kernel
theorem dX11_find_9 : decode cX11_find 9 = .ok (.if_icmp .ge 21, 3) := by decide +kernel
theorem dX11_find_12 : decode cX11_find 12 = .ok (.aload_n 0, 1) := by decide +kernel
theorem dX11_find_13 : decode cX11_find 13 = .ok (.iload_n 2, 1) := by decide +kernel
theorem dX11_find_14 : decode cX11_find 14 = .ok (.iconst 0, 1) := by decide +kernel
theorem dX11_find_15 : decode cX11_find 15 = .ok (.invokevirtual 33, 3) := by decide +kernel
theorem dX11_find_18 : decode cX11_find 18 = .ok (.iload_n 1, 1) := by decide +kernel
theorem dX11_find_19 : decode cX11_find 19 = .ok (.if_icmp .ne 5, 3) := by decide +kernel
theorem dX11_find_22 : decode cX11_find 22 = .ok (.iload_n 2, 1) := by decide +kernel
theorem dX11_find_23 : decode cX11_find 23 = .ok (.ireturn, 1) := by decide +kernel
theorem dX11_find_24 : decode cX11_find 24 = .ok (.iinc 2 1, 3) := by decide +kernel
theorem dX11_find_27 : decode cX11_find 27 = .ok (.goto (-25), 3) := by decide +kernel
theorem dX11_find_30 : decode cX11_find 30 = .ok (.iconst (-1), 1) := by decide +kernel
theorem dX11_find_31 : decode cX11_find 31 = .ok (.ireturn, 1) := by decide +kernel
theorem dX11_keeps_0 : decode cX11_keeps 0 = .ok (.iconst 0, 1) := by decide +kernel
theorem dX11_keeps_1 : decode cX11_keeps 1 = .ok (.istore_n 2, 1) := by decide +kernel
theorem dX11_keeps_2 : decode cX11_keeps 2 = .ok (.iload_n 2, 1) := by decide +kernel
theorem dX11_keeps_3 : decode cX11_keeps 3 = .ok (.sipush 267, 3) := by decide +kernel
theorem dX11_keeps_6 : decode cX11_keeps 6 = .ok (.if_icmp .ge 27, 3) := by decide +kernel
theorem dX11_keeps_9 : decode cX11_keeps 9 = .ok (.aload_n 0, 1) := by decide +kernel
theorem dX11_keeps_10 : decode cX11_keeps 10 = .ok (.getfield 13, 3) := by decide +kernel
theorem dX11_keeps_13 : decode cX11_keeps 13 = .ok (.iload_n 1, 1) := by decide +kernel
theorem dX11_keeps_14 : decode cX11_keeps 14 = .ok (.sipush 267, 3) := by decide +kernel
theorem dX11_keeps_17 : decode cX11_keeps 17 = .ok (.imul, 1) := by decide +kernel
theorem dX11_keeps_18 : decode cX11_keeps 18 = .ok (.iload_n 2, 1) := by decide +kernel
theorem dX11_keeps_19 : decode cX11_keeps 19 = .ok (.iadd, 1) := by decide +kernel
theorem dX11_keeps_20 : decode cX11_keeps 20 = .ok (.aload_n 0, 1) := by decide +kernel
theorem dX11_keeps_21 : decode cX11_keeps 21 = .ok (.getfield 7, 3) := by decide +kernel
theorem dX11_keeps_24 : decode cX11_keeps 24 = .ok (.iload_n 2, 1) := by decide +kernel
theorem dX11_keeps_25 : decode cX11_keeps 25 = .ok (.iaload, 1) := by decide +kernel
theorem dX11_keeps_26 : decode cX11_keeps 26 = .ok (.iastore, 1) := by decide +kernel
theorem dX11_keeps_27 : decode cX11_keeps 27 = .ok (.iinc 2 1, 3) := by decide +kernel
theorem dX11_keeps_30 : decode cX11_keeps 30 = .ok (.goto (-28), 3) := by decide +kernel
theorem dX11_keeps_33 : decode cX11_keeps 33 = .ok (.return_, 1) := by decide +kernel
theorem dX11_brings_0 : decode cX11_brings 0 = .ok (.iconst 0, 1) := by decide +kernel
theorem dX11_brings_1 : decode cX11_brings 1 = .ok (.istore_n 2, 1) := by decide +kernel
theorem dX11_brings_2 : decode cX11_brings 2 = .ok (.iload_n 2, 1) := by decide +kernel
theorem dX11_brings_3 : decode cX11_brings 3 = .ok (.sipush 267, 3) := by decide +kernel
theorem dX11_brings_6 : decode cX11_brings 6 = .ok (.if_icmp .ge 27, 3) := by decide +kernel
theorem dX11_brings_9 : decode cX11_brings 9 = .ok (.aload_n 0, 1) := by decide +kernel
theorem dX11_brings_10 : decode cX11_brings 10 = .ok (.getfield 7, 3) := by decide +kernel
theorem dX11_brings_13 : decode cX11_brings 13 = .ok (.iload_n 2, 1) := by decide +kernel
theorem dX11_brings_14 : decode cX11_brings 14 = .ok (.aload_n 0, 1) := by decide +kernel
theorem dX11_brings_15 : decode cX11_brings 15 = .ok (.getfield 13, 3) := by decide +kernel
theorem dX11_brings_18 : decode cX11_brings 18 = .ok (.iload_n 1, 1) := by decide +kernel
theorem dX11_brings_19 : decode cX11_brings 19 = .ok (.sipush 267, 3) := by decide +kernel
theorem dX11_brings_22 : decode cX11_brings 22 = .ok (.imul, 1) := by decide +kernel
theorem dX11_brings_23 : decode cX11_brings 23 = .ok (.iload_n 2, 1) := by decide +kernel
theorem dX11_brings_24 : decode cX11_brings 24 = .ok (.iadd, 1) := by decide +kernel
theorem dX11_brings_25 : decode cX11_brings 25 = .ok (.iaload, 1) := by decide +kernel
theorem dX11_brings_26 : decode cX11_brings 26 = .ok (.iastore, 1) := by decide +kernel
theorem dX11_brings_27 : decode cX11_brings 27 = .ok (.iinc 2 1, 3) := by decide +kernel
theorem dX11_brings_30 : decode cX11_brings 30 = .ok (.goto (-28), 3) := by decide +kernel
theorem dX11_brings_33 : decode cX11_brings 33 = .ok (.return_, 1) := by decide +kernel
theorem dX11_records_0 : decode cX11_records 0 = .ok (.aload_n 0, 1) := by decide +kernel
theorem dX11_records_1 : decode cX11_records 1 = .ok (.getfield 37, 3) := by decide +kernel
theorem dX11_records_4 : decode cX11_records 4 = .ok (.iconst 4, 1) := by decide +kernel
theorem dX11_records_5 : decode cX11_records 5 = .ok (.if_icmp .ne 44, 3) := by decide +kernel
theorem dX11_records_8 : decode cX11_records 8 = .ok (.iconst 0, 1) := by decide +kernel
theorem dX11_records_9 : decode cX11_records 9 = .ok (.istore_n 1, 1) := by decide +kernel
theorem dX11_records_10 : decode cX11_records 10 = .ok (.iload_n 1, 1) := by decide +kernel
theorem dX11_records_11 : decode cX11_records 11 = .ok (.sipush 801, 3) := by decide +kernel
theorem dX11_records_14 : decode cX11_records 14 = .ok (.if_icmp .ge 25, 3) := by decide +kernel
theorem dX11_records_17 : decode cX11_records 17 = .ok (.aload_n 0, 1) := by decide +kernel
theorem dX11_records_18 : decode cX11_records 18 = .ok (.getfield 13, 3) := by decide +kernel
theorem dX11_records_21 : decode cX11_records 21 = .ok (.iload_n 1, 1) := by decide +kernel
theorem dX11_records_22 : decode cX11_records 22 = .ok (.aload_n 0, 1) := by decide +kernel
theorem dX11_records_23 : decode cX11_records 23 = .ok (.getfield 13, 3) := by decide +kernel
theorem dX11_records_26 : decode cX11_records 26 = .ok (.iload_n 1, 1) := by decide +kernel
theorem dX11_records_27 : decode cX11_records 27 = .ok (.sipush 267, 3) := by decide +kernel
theorem dX11_records_30 : decode cX11_records 30 = .ok (.iadd, 1) := by decide +kernel
theorem dX11_records_31 : decode cX11_records 31 = .ok (.iaload, 1) := by decide +kernel
theorem dX11_records_32 : decode cX11_records 32 = .ok (.iastore, 1) := by decide +kernel
theorem dX11_records_33 : decode cX11_records 33 = .ok (.iinc 1 1, 3) := by decide +kernel
theorem dX11_records_36 : decode cX11_records 36 = .ok (.goto (-26), 3) := by decide +kernel
theorem dX11_records_39 : decode cX11_records 39 = .ok (.aload_n 0, 1) := by decide +kernel
theorem dX11_records_40 : decode cX11_records 40 = .ok (.dup, 1) := by decide +kernel
theorem dX11_records_41 : decode cX11_records 41 = .ok (.getfield 37, 3) := by decide +kernel
theorem dX11_records_44 : decode cX11_records 44 = .ok (.iconst 1, 1) := by decide +kernel
theorem dX11_records_45 : decode cX11_records 45 = .ok (.isub, 1) := by decide +kernel
theorem dX11_records_46 : decode cX11_records 46 = .ok (.putfield 37, 3) := by decide +kernel
theorem dX11_records_49 : decode cX11_records 49 = .ok (.aload_n 0, 1) := by decide +kernel
theorem dX11_records_50 : decode cX11_records 50 = .ok (.aload_n 0, 1) := by decide +kernel
theorem dX11_records_51 : decode cX11_records 51 = .ok (.getfield 37, 3) := by decide +kernel
theorem dX11_records_54 : decode cX11_records 54 = .ok (.invokevirtual 40, 3) := by decide +kernel
theorem dX11_records_57 : decode cX11_records 57 = .ok (.aload_n 0, 1) := by decide +kernel
theorem dX11_records_58 : decode cX11_records 58 = .ok (.dup, 1) := by decide +kernel
theorem dX11_records_59 : decode cX11_records 59 = .ok (.getfield 37, 3) := by decide +kernel
theorem dX11_records_62 : decode cX11_records 62 = .ok (.iconst 1, 1) := by decide +kernel
theorem dX11_records_63 : decode cX11_records 63 = .ok (.iadd, 1) := by decide +kernel
theorem dX11_records_64 : decode cX11_records 64 = .ok (.putfield 37, 3) := by decide +kernel
theorem dX11_records_67 : decode cX11_records 67 = .ok (.return_, 1) := by decide +kernel
theorem dX11_undo_0 : decode cX11_undo 0 = .ok (.aload_n 0, 1) := by decide +kernel
theorem dX11_undo_1 : decode cX11_undo 1 = .ok (.aload_n 0, 1) := by decide +kernel
theorem dX11_undo_2 : decode cX11_undo 2 = .ok (.getfield 37, 3) := by decide +kernel
theorem dX11_undo_5 : decode cX11_undo 5 = .ok (.ifCond .le 7, 3) := by decide +kernel
theorem dX11_undo_8 : decode cX11_undo 8 = .ok (.iconst 0, 1) := by decide +kernel
theorem dX11_undo_9 : decode cX11_undo 9 = .ok (.goto 4, 3) := by decide +kernel
theorem dX11_undo_12 : decode cX11_undo 12 = .ok (.iconst 1, 1) := by decide +kernel
theorem dX11_undo_13 : decode cX11_undo 13 = .ok (.putfield 25, 3) := by decide +kernel
theorem dX11_undo_16 : decode cX11_undo 16 = .ok (.aload_n 0, 1) := by decide +kernel
theorem dX11_undo_17 : decode cX11_undo 17 = .ok (.getfield 25, 3) := by decide +kernel
theorem dX11_undo_20 : decode cX11_undo 20 = .ok (.ifCond .eq 5, 3) := by decide +kernel
theorem dX11_undo_23 : decode cX11_undo 23 = .ok (.iconst 0, 1) := by decide +kernel
theorem dX11_undo_24 : decode cX11_undo 24 = .ok (.ireturn, 1) := by decide +kernel
theorem dX11_undo_25 : decode cX11_undo 25 = .ok (.aload_n 0, 1) := by decide +kernel
theorem dX11_undo_26 : decode cX11_undo 26 = .ok (.dup, 1) := by decide +kernel
theorem dX11_undo_27 : decode cX11_undo 27 = .ok (.getfield 37, 3) := by decide +kernel
theorem dX11_undo_30 : decode cX11_undo 30 = .ok (.iconst 1, 1) := by decide +kernel
theorem dX11_undo_31 : decode cX11_undo 31 = .ok (.isub, 1) := by decide +kernel
theorem dX11_undo_32 : decode cX11_undo 32 = .ok (.putfield 37, 3) := by decide +kernel
theorem dX11_undo_35 : decode cX11_undo 35 = .ok (.aload_n 0, 1) := by decide +kernel
theorem dX11_undo_36 : decode cX11_undo 36 = .ok (.aload_n 0, 1) := by decide +kernel
theorem dX11_undo_37 : decode cX11_undo 37 = .ok (.getfield 37, 3) := by decide +kernel
theorem dX11_undo_40 : decode cX11_undo 40 = .ok (.invokevirtual 44, 3) := by decide +kernel
theorem dX11_undo_43 : decode cX11_undo 43 = .ok (.aload_n 0, 1) := by decide +kernel
theorem dX11_undo_44 : decode cX11_undo 44 = .ok (.getfield 37, 3) := by decide +kernel
theorem dX11_undo_47 : decode cX11_undo 47 = .ok (.ireturn, 1) := by decide +kernel
theorem dX11_traderError_0 : decode cX11_traderError 0 = .ok (.iload_n 1, 1) := by decide +kernel
theorem dX11_traderError_1 : decode cX11_traderError 1 = .ok (.iconst 0, 1) := by decide +kernel
theorem dX11_traderError_2 : decode cX11_traderError 2 = .ok (.iconst 1, 1) := by decide +kernel
theorem dX11_traderError_3 : decode cX11_traderError 3 = .ok (.invokestatic 29, 3) := by decide +kernel
theorem dX11_traderError_6 : decode cX11_traderError 6 = .ok (.ifCond .eq 13, 3) := by decide +kernel
theorem dX11_traderError_9 : decode cX11_traderError 9 = .ok (.iload_n 2, 1) := by decide +kernel
theorem dX11_traderError_10 : decode cX11_traderError 10 = .ok (.iconst 1, 1) := by decide +kernel
theorem dX11_traderError_11 : decode cX11_traderError 11 = .ok (.bipush 99, 2) := by decide +kernel
theorem dX11_traderError_13 : decode cX11_traderError 13 = .ok (.invokestatic 29, 3) := by decide +kernel
theorem dX11_traderError_16 : decode cX11_traderError 16 = .ok (.ifCond .ne 5, 3) := by decide +kernel
theorem dX11_traderError_19 : decode cX11_traderError 19 = .ok (.iconst 1, 1) := by decide +kernel
theorem dX11_traderError_20 : decode cX11_traderError 20 = .ok (.ireturn, 1) := by decide +kernel
theorem dX11_traderError_21 : decode cX11_traderError 21 = .ok (.aload_n 0, 1) := by decide +kernel
theorem dX11_traderError_22 : decode cX11_traderError 22 = .ok (.getfield 7, 3) := by decide +kernel
theorem dX11_traderError_25 : decode cX11_traderError 25 = .ok (.iconst 0, 1) := by decide +kernel
theorem dX11_traderError_26 : decode cX11_traderError 26 = .ok (.iaload, 1) := by decide +kernel
theorem dX11_traderError_27 : decode cX11_traderError 27 = .ok (.bipush 8, 2) := by decide +kernel
theorem dX11_traderError_29 : decode cX11_traderError 29 = .ok (.if_icmp .ge 7, 3) := by decide +kernel
theorem dX11_traderError_32 : decode cX11_traderError 32 = .ok (.iconst 0, 1) := by decide +kernel
theorem dX11_traderError_33 : decode cX11_traderError 33 = .ok (.goto 4, 3) := by decide +kernel
theorem dX11_traderError_36 : decode cX11_traderError 36 = .ok (.iconst 2, 1) := by decide +kernel
theorem dX11_traderError_37 : decode cX11_traderError 37 = .ok (.ireturn, 1) := by decide +kernel
theorem dX11_addsTrader_0 : decode cX11_addsTrader 0 = .ok (.aload_n 0, 1) := by decide +kernel
theorem dX11_addsTrader_1 : decode cX11_addsTrader 1 = .ok (.getfield 7, 3) := by decide +kernel
theorem dX11_addsTrader_4 : decode cX11_addsTrader 4 = .ok (.iconst 0, 1) := by decide +kernel
theorem dX11_addsTrader_5 : decode cX11_addsTrader 5 = .ok (.iaload, 1) := by decide +kernel
theorem dX11_addsTrader_6 : decode cX11_addsTrader 6 = .ok (.istore_n 3, 1) := by decide +kernel
theorem dX11_addsTrader_7 : decode cX11_addsTrader 7 = .ok (.aload_n 0, 1) := by decide +kernel
theorem dX11_addsTrader_8 : decode cX11_addsTrader 8 = .ok (.getfield 7, 3) := by decide +kernel
theorem dX11_addsTrader_11 : decode cX11_addsTrader 11 = .ok (.iconst 0, 1) := by decide +kernel
theorem dX11_addsTrader_12 : decode cX11_addsTrader 12 = .ok (.dup2, 1) := by decide +kernel
theorem dX11_addsTrader_13 : decode cX11_addsTrader 13 = .ok (.iaload, 1) := by decide +kernel
theorem dX11_addsTrader_14 : decode cX11_addsTrader 14 = .ok (.iconst 1, 1) := by decide +kernel
theorem dX11_addsTrader_15 : decode cX11_addsTrader 15 = .ok (.iadd, 1) := by decide +kernel
theorem dX11_addsTrader_16 : decode cX11_addsTrader 16 = .ok (.iastore, 1) := by decide +kernel
theorem dX11_addsTrader_17 : decode cX11_addsTrader 17 = .ok (.iconst 0, 1) := by decide +kernel
theorem dX11_addsTrader_18 : decode cX11_addsTrader 18 = .ok (.istore 4, 2) := by decide +kernel
theorem dX11_addsTrader_20 : decode cX11_addsTrader 20 = .ok (.iload 4, 2) := by decide +kernel
theorem dX11_addsTrader_22 : decode cX11_addsTrader 22 = .ok (.bipush 7, 2) := by decide +kernel
theorem dX11_addsTrader_24 : decode cX11_addsTrader 24 = .ok (.if_icmp .ge 17, 3) := by decide +kernel
theorem dX11_addsTrader_27 : decode cX11_addsTrader 27 = .ok (.aload_n 0, 1) := by decide +kernel
theorem dX11_addsTrader_28 : decode cX11_addsTrader 28 = .ok (.iload_n 3, 1) := by decide +kernel
theorem dX11_addsTrader_29 : decode cX11_addsTrader 29 = .ok (.iload 4, 2) := by decide +kernel
theorem dX11_addsTrader_31 : decode cX11_addsTrader 31 = .ok (.iconst 0, 1) := by decide +kernel
theorem dX11_addsTrader_32 : decode cX11_addsTrader 32 = .ok (.invokevirtual 47, 3) := by decide +kernel
theorem dX11_addsTrader_35 : decode cX11_addsTrader 35 = .ok (.iinc 4 1, 3) := by decide +kernel
theorem dX11_addsTrader_38 : decode cX11_addsTrader 38 = .ok (.goto (-18), 3) := by decide +kernel
theorem dX11_addsTrader_41 : decode cX11_addsTrader 41 = .ok (.aload_n 0, 1) := by decide +kernel
theorem dX11_addsTrader_42 : decode cX11_addsTrader 42 = .ok (.iload_n 3, 1) := by decide +kernel
theorem dX11_addsTrader_43 : decode cX11_addsTrader 43 = .ok (.iconst 0, 1) := by decide +kernel
theorem dX11_addsTrader_44 : decode cX11_addsTrader 44 = .ok (.iload_n 1, 1) := by decide +kernel
theorem dX11_addsTrader_45 : decode cX11_addsTrader 45 = .ok (.invokevirtual 47, 3) := by decide +kernel
theorem dX11_addsTrader_48 : decode cX11_addsTrader 48 = .ok (.aload_n 0, 1) := by decide +kernel
theorem dX11_addsTrader_49 : decode cX11_addsTrader 49 = .ok (.iload_n 3, 1) := by decide +kernel
theorem dX11_addsTrader_50 : decode cX11_addsTrader 50 = .ok (.iconst 1, 1) := by decide +kernel
theorem dX11_addsTrader_51 : decode cX11_addsTrader 51 = .ok (.iload_n 2, 1) := by decide +kernel
theorem dX11_addsTrader_52 : decode cX11_addsTrader 52 = .ok (.invokevirtual 47, 3) := by decide +kernel
theorem dX11_addsTrader_55 : decode cX11_addsTrader 55 = .ok (.iload_n 3, 1) := by decide +kernel
theorem dX11_addsTrader_56 : decode cX11_addsTrader 56 = .ok (.ireturn, 1) := by decide +kernel
theorem dX11_addTrader_0 : decode cX11_addTrader 0 = .ok (.aload_n 0, 1) := by decide +kernel
theorem dX11_addTrader_1 : decode cX11_addTrader 1 = .ok (.aload_n 0, 1) := by decide +kernel
theorem dX11_addTrader_2 : decode cX11_addTrader 2 = .ok (.iload_n 1, 1) := by decide +kernel
theorem dX11_addTrader_3 : decode cX11_addTrader 3 = .ok (.iload_n 2, 1) := by decide +kernel
theorem dX11_addTrader_4 : decode cX11_addTrader 4 = .ok (.invokevirtual 51, 3) := by decide +kernel
theorem dX11_addTrader_7 : decode cX11_addTrader 7 = .ok (.putfield 25, 3) := by decide +kernel
theorem dX11_addTrader_10 : decode cX11_addTrader 10 = .ok (.aload_n 0, 1) := by decide +kernel
theorem dX11_addTrader_11 : decode cX11_addTrader 11 = .ok (.getfield 25, 3) := by decide +kernel
theorem dX11_addTrader_14 : decode cX11_addTrader 14 = .ok (.ifCond .eq 5, 3) := by decide +kernel
theorem dX11_addTrader_17 : decode cX11_addTrader 17 = .ok (.iconst 0, 1) := by decide +kernel
theorem dX11_addTrader_18 : decode cX11_addTrader 18 = .ok (.ireturn, 1) := by decide +kernel
theorem dX11_addTrader_19 : decode cX11_addTrader 19 = .ok (.aload_n 0, 1) := by decide +kernel
theorem dX11_addTrader_20 : decode cX11_addTrader 20 = .ok (.invokevirtual 54, 3) := by decide +kernel
theorem dX11_addTrader_23 : decode cX11_addTrader 23 = .ok (.aload_n 0, 1) := by decide +kernel
theorem dX11_addTrader_24 : decode cX11_addTrader 24 = .ok (.iload_n 1, 1) := by decide +kernel
theorem dX11_addTrader_25 : decode cX11_addTrader 25 = .ok (.iload_n 2, 1) := by decide +kernel
theorem dX11_addTrader_26 : decode cX11_addTrader 26 = .ok (.invokevirtual 57, 3) := by decide +kernel
theorem dX11_addTrader_29 : decode cX11_addTrader 29 = .ok (.ireturn, 1) := by decide +kernel
theorem dX11_setValue_0 : decode cX11_setValue 0 = .ok (.aload_n 0, 1) := by decide +kernel
theorem dX11_setValue_1 : decode cX11_setValue 1 = .ok (.aload_n 0, 1) := by decide +kernel
theorem dX11_setValue_2 : decode cX11_setValue 2 = .ok (.iload_n 1, 1) := by decide +kernel
theorem dX11_setValue_3 : decode cX11_setValue 3 = .ok (.invokevirtual 60, 3) := by decide +kernel
theorem dX11_setValue_6 : decode cX11_setValue 6 = .ok (.ifCond .ne 7, 3) := by decide +kernel
theorem dX11_setValue_9 : decode cX11_setValue 9 = .ok (.iconst 1, 1) := by decide +kernel
theorem dX11_setValue_10 : decode cX11_setValue 10 = .ok (.goto 18, 3) := by decide +kernel
theorem dX11_setValue_13 : decode cX11_setValue 13 = .ok (.iload_n 2, 1) := by decide +kernel
theorem dX11_setValue_14 : decode cX11_setValue 14 = .ok (.iconst 1, 1) := by decide +kernel
theorem dX11_setValue_15 : decode cX11_setValue 15 = .ok (.bipush 99, 2) := by decide +kernel
theorem dX11_setValue_17 : decode cX11_setValue 17 = .ok (.invokestatic 29, 3) := by decide +kernel
theorem dX11_setValue_20 : decode cX11_setValue 20 = .ok (.ifCond .eq 7, 3) := by decide +kernel
theorem dX11_setValue_23 : decode cX11_setValue 23 = .ok (.iconst 0, 1) := by decide +kernel
theorem dX11_setValue_24 : decode cX11_setValue 24 = .ok (.goto 4, 3) := by decide +kernel
theorem dX11_setValue_27 : decode cX11_setValue 27 = .ok (.iconst 2, 1) := by decide +kernel
theorem dX11_setValue_28 : decode cX11_setValue 28 = .ok (.putfield 25, 3) := by decide +kernel
theorem dX11_setValue_31 : decode cX11_setValue 31 = .ok (.aload_n 0, 1) := by decide +kernel
theorem dX11_setValue_32 : decode cX11_setValue 32 = .ok (.getfield 25, 3) := by decide +kernel
theorem dX11_setValue_35 : decode cX11_setValue 35 = .ok (.ifCond .eq 5, 3) := by decide +kernel
theorem dX11_setValue_38 : decode cX11_setValue 38 = .ok (.iconst 0, 1) := by decide +kernel
theorem dX11_setValue_39 : decode cX11_setValue 39 = .ok (.ireturn, 1) := by decide +kernel
theorem dX11_setValue_40 : decode cX11_setValue 40 = .ok (.aload_n 0, 1) := by decide +kernel
theorem dX11_setValue_41 : decode cX11_setValue 41 = .ok (.invokevirtual 54, 3) := by decide +kernel
theorem dX11_setValue_44 : decode cX11_setValue 44 = .ok (.aload_n 0, 1) := by decide +kernel
theorem dX11_setValue_45 : decode cX11_setValue 45 = .ok (.iload_n 1, 1) := by decide +kernel
theorem dX11_setValue_46 : decode cX11_setValue 46 = .ok (.iconst 1, 1) := by decide +kernel
theorem dX11_setValue_47 : decode cX11_setValue 47 = .ok (.invokevirtual 64, 3) := by decide +kernel
theorem dX11_setValue_50 : decode cX11_setValue 50 = .ok (.istore_n 3, 1) := by decide +kernel
theorem dX11_setValue_51 : decode cX11_setValue 51 = .ok (.aload_n 0, 1) := by decide +kernel
theorem dX11_setValue_52 : decode cX11_setValue 52 = .ok (.iload_n 1, 1) := by decide +kernel
theorem dX11_setValue_53 : decode cX11_setValue 53 = .ok (.iconst 1, 1) := by decide +kernel
theorem dX11_setValue_54 : decode cX11_setValue 54 = .ok (.iload_n 2, 1) := by decide +kernel
theorem dX11_setValue_55 : decode cX11_setValue 55 = .ok (.invokevirtual 47, 3) := by decide +kernel
theorem dX11_setValue_58 : decode cX11_setValue 58 = .ok (.iload_n 3, 1) := by decide +kernel
theorem dX11_setValue_59 : decode cX11_setValue 59 = .ok (.ireturn, 1) := by decide +kernel
theorem dX11_bidBy_0 : decode cX11_bidBy 0 = .ok (.aload_n 0, 1) := by decide +kernel
theorem dX11_bidBy_1 : decode cX11_bidBy 1 = .ok (.iload_n 1, 1) := by decide +kernel
theorem dX11_bidBy_2 : decode cX11_bidBy 2 = .ok (.iconst 1, 1) := by decide +kernel
theorem dX11_bidBy_3 : decode cX11_bidBy 3 = .ok (.invokevirtual 64, 3) := by decide +kernel
theorem dX11_bidBy_6 : decode cX11_bidBy 6 = .ok (.istore_n 3, 1) := by decide +kernel
theorem dX11_bidBy_7 : decode cX11_bidBy 7 = .ok (.aload_n 0, 1) := by decide +kernel
theorem dX11_bidBy_8 : decode cX11_bidBy 8 = .ok (.iload_n 1, 1) := by decide +kernel
theorem dX11_bidBy_9 : decode cX11_bidBy 9 = .ok (.iconst 0, 1) := by decide +kernel
theorem dX11_bidBy_10 : decode cX11_bidBy 10 = .ok (.invokevirtual 64, 3) := by decide +kernel
theorem dX11_bidBy_13 : decode cX11_bidBy 13 = .ok (.ifCond .ne 18, 3) := by decide +kernel
theorem dX11_bidBy_16 : decode cX11_bidBy 16 = .ok (.iload_n 3, 1) := by decide +kernel
theorem dX11_bidBy_17 : decode cX11_bidBy 17 = .ok (.iload_n 2, 1) := by decide +kernel
theorem dX11_bidBy_18 : decode cX11_bidBy 18 = .ok (.isub, 1) := by decide +kernel
theorem dX11_bidBy_19 : decode cX11_bidBy 19 = .ok (.iconst 1, 1) := by decide +kernel
theorem dX11_bidBy_20 : decode cX11_bidBy 20 = .ok (.if_icmp .ge 7, 3) := by decide +kernel
theorem dX11_bidBy_23 : decode cX11_bidBy 23 = .ok (.iconst 1, 1) := by decide +kernel
theorem dX11_bidBy_24 : decode cX11_bidBy 24 = .ok (.goto 6, 3) := by decide +kernel
theorem dX11_bidBy_27 : decode cX11_bidBy 27 = .ok (.iload_n 3, 1) := by decide +kernel
theorem dX11_bidBy_28 : decode cX11_bidBy 28 = .ok (.iload_n 2, 1) := by decide +kernel
theorem dX11_bidBy_29 : decode cX11_bidBy 29 = .ok (.isub, 1) := by decide +kernel
theorem dX11_bidBy_30 : decode cX11_bidBy 30 = .ok (.ireturn, 1) := by decide +kernel
theorem dX11_bidBy_31 : decode cX11_bidBy 31 = .ok (.iload_n 3, 1) := by decide +kernel
theorem dX11_bidBy_32 : decode cX11_bidBy 32 = .ok (.iload_n 2, 1) := by decide +kernel
theorem dX11_bidBy_33 : decode cX11_bidBy 33 = .ok (.iadd, 1) := by decide +kernel
theorem dX11_bidBy_34 : decode cX11_bidBy 34 = .ok (.bipush 120, 2) := by decide +kernel
theorem dX11_bidBy_36 : decode cX11_bidBy 36 = .ok (.if_icmp .le 8, 3) := by decide +kernel
theorem dX11_bidBy_39 : decode cX11_bidBy 39 = .ok (.bipush 120, 2) := by decide +kernel
theorem dX11_bidBy_41 : decode cX11_bidBy 41 = .ok (.goto 6, 3) := by decide +kernel
theorem dX11_bidBy_44 : decode cX11_bidBy 44 = .ok (.iload_n 3, 1) := by decide +kernel
theorem dX11_bidBy_45 : decode cX11_bidBy 45 = .ok (.iload_n 2, 1) := by decide +kernel
theorem dX11_bidBy_46 : decode cX11_bidBy 46 = .ok (.iadd, 1) := by decide +kernel
theorem dX11_bidBy_47 : decode cX11_bidBy 47 = .ok (.ireturn, 1) := by decide +kernel
theorem dX11_bidOf_0 : decode cX11_bidOf 0 = .ok (.aload_n 0, 1) := by decide +kernel
theorem dX11_bidOf_1 : decode cX11_bidOf 1 = .ok (.iload_n 1, 1) := by decide +kernel
theorem dX11_bidOf_2 : decode cX11_bidOf 2 = .ok (.iconst 2, 1) := by decide +kernel
theorem dX11_bidOf_3 : decode cX11_bidOf 3 = .ok (.invokevirtual 64, 3) := by decide +kernel
theorem dX11_bidOf_6 : decode cX11_bidOf 6 = .ok (.istore_n 2, 1) := by decide +kernel
theorem dX11_bidOf_7 : decode cX11_bidOf 7 = .ok (.aload_n 0, 1) := by decide +kernel
theorem dX11_bidOf_8 : decode cX11_bidOf 8 = .ok (.iload_n 1, 1) := by decide +kernel
theorem dX11_bidOf_9 : decode cX11_bidOf 9 = .ok (.iconst 3, 1) := by decide +kernel
theorem dX11_bidOf_10 : decode cX11_bidOf 10 = .ok (.invokevirtual 64, 3) := by decide +kernel
theorem dX11_bidOf_13 : decode cX11_bidOf 13 = .ok (.istore_n 3, 1) := by decide +kernel
theorem dX11_bidOf_14 : decode cX11_bidOf 14 = .ok (.aload_n 0, 1) := by decide +kernel
theorem dX11_bidOf_15 : decode cX11_bidOf 15 = .ok (.iload_n 1, 1) := by decide +kernel
theorem dX11_bidOf_16 : decode cX11_bidOf 16 = .ok (.iload_n 2, 1) := by decide +kernel
theorem dX11_bidOf_17 : decode cX11_bidOf 17 = .ok (.ifCond .ne 7, 3) := by decide +kernel
theorem dX11_bidOf_20 : decode cX11_bidOf 20 = .ok (.iconst 0, 1) := by decide +kernel
theorem dX11_bidOf_21 : decode cX11_bidOf 21 = .ok (.goto 23, 3) := by decide +kernel
theorem dX11_bidOf_24 : decode cX11_bidOf 24 = .ok (.iload_n 2, 1) := by decide +kernel
theorem dX11_bidOf_25 : decode cX11_bidOf 25 = .ok (.iconst 2, 1) := by decide +kernel
theorem dX11_bidOf_26 : decode cX11_bidOf 26 = .ok (.if_icmp .ne 17, 3) := by decide +kernel
theorem dX11_bidOf_29 : decode cX11_bidOf 29 = .ok (.aload_n 0, 1) := by decide +kernel
theorem dX11_bidOf_30 : decode cX11_bidOf 30 = .ok (.iload_n 1, 1) := by decide +kernel
theorem dX11_bidOf_31 : decode cX11_bidOf 31 = .ok (.iconst 1, 1) := by decide +kernel
theorem dX11_bidOf_32 : decode cX11_bidOf 32 = .ok (.invokevirtual 64, 3) := by decide +kernel
theorem dX11_bidOf_35 : decode cX11_bidOf 35 = .ok (.iload_n 3, 1) := by decide +kernel
theorem dX11_bidOf_36 : decode cX11_bidOf 36 = .ok (.imul, 1) := by decide +kernel
theorem dX11_bidOf_37 : decode cX11_bidOf 37 = .ok (.bipush 100, 2) := by decide +kernel
theorem dX11_bidOf_39 : decode cX11_bidOf 39 = .ok (.idiv, 1) := by decide +kernel
theorem dX11_bidOf_40 : decode cX11_bidOf 40 = .ok (.goto 4, 3) := by decide +kernel
theorem dX11_bidOf_43 : decode cX11_bidOf 43 = .ok (.iload_n 3, 1) := by decide +kernel
theorem dX11_bidOf_44 : decode cX11_bidOf 44 = .ok (.invokevirtual 67, 3) := by decide +kernel
theorem dX11_bidOf_47 : decode cX11_bidOf 47 = .ok (.ireturn, 1) := by decide +kernel
theorem dX11_shadeError_0 : decode cX11_shadeError 0 = .ok (.aload_n 0, 1) := by decide +kernel
theorem dX11_shadeError_1 : decode cX11_shadeError 1 = .ok (.iload_n 1, 1) := by decide +kernel
theorem dX11_shadeError_2 : decode cX11_shadeError 2 = .ok (.invokevirtual 60, 3) := by decide +kernel
theorem dX11_shadeError_5 : decode cX11_shadeError 5 = .ok (.ifCond .ne 5, 3) := by decide +kernel
theorem dX11_shadeError_8 : decode cX11_shadeError 8 = .ok (.iconst 1, 1) := by decide +kernel
theorem dX11_shadeError_9 : decode cX11_shadeError 9 = .ok (.ireturn, 1) := by decide +kernel
theorem dX11_shadeError_10 : decode cX11_shadeError 10 = .ok (.iload_n 2, 1) := by decide +kernel
theorem dX11_shadeError_11 : decode cX11_shadeError 11 = .ok (.iconst 0, 1) := by decide +kernel
theorem dX11_shadeError_12 : decode cX11_shadeError 12 = .ok (.iconst 3, 1) := by decide +kernel
theorem dX11_shadeError_13 : decode cX11_shadeError 13 = .ok (.invokestatic 29, 3) := by decide +kernel
theorem dX11_shadeError_16 : decode cX11_shadeError 16 = .ok (.ifCond .eq 17, 3) := by decide +kernel
theorem dX11_shadeError_19 : decode cX11_shadeError 19 = .ok (.iload_n 3, 1) := by decide +kernel
theorem dX11_shadeError_20 : decode cX11_shadeError 20 = .ok (.iconst 0, 1) := by decide +kernel
theorem dX11_shadeError_21 : decode cX11_shadeError 21 = .ok (.bipush 50, 2) := by decide +kernel
theorem dX11_shadeError_23 : decode cX11_shadeError 23 = .ok (.invokestatic 29, 3) := by decide +kernel
theorem dX11_shadeError_26 : decode cX11_shadeError 26 = .ok (.ifCond .eq 7, 3) := by decide +kernel
theorem dX11_shadeError_29 : decode cX11_shadeError 29 = .ok (.iconst 0, 1) := by decide +kernel
theorem dX11_shadeError_30 : decode cX11_shadeError 30 = .ok (.goto 4, 3) := by decide +kernel
theorem dX11_shadeError_33 : decode cX11_shadeError 33 = .ok (.iconst 2, 1) := by decide +kernel
theorem dX11_shadeError_34 : decode cX11_shadeError 34 = .ok (.ireturn, 1) := by decide +kernel
theorem dX11_shades_0 : decode cX11_shades 0 = .ok (.aload_n 0, 1) := by decide +kernel
theorem dX11_shades_1 : decode cX11_shades 1 = .ok (.iload_n 1, 1) := by decide +kernel
theorem dX11_shades_2 : decode cX11_shades 2 = .ok (.iconst 2, 1) := by decide +kernel
theorem dX11_shades_3 : decode cX11_shades 3 = .ok (.iload_n 2, 1) := by decide +kernel
theorem dX11_shades_4 : decode cX11_shades 4 = .ok (.invokevirtual 47, 3) := by decide +kernel
theorem dX11_shades_7 : decode cX11_shades 7 = .ok (.aload_n 0, 1) := by decide +kernel
theorem dX11_shades_8 : decode cX11_shades 8 = .ok (.iload_n 1, 1) := by decide +kernel
theorem dX11_shades_9 : decode cX11_shades 9 = .ok (.iconst 3, 1) := by decide +kernel
theorem dX11_shades_10 : decode cX11_shades 10 = .ok (.iload_n 3, 1) := by decide +kernel
theorem dX11_shades_11 : decode cX11_shades 11 = .ok (.invokevirtual 47, 3) := by decide +kernel
theorem dX11_shades_14 : decode cX11_shades 14 = .ok (.aload_n 0, 1) := by decide +kernel
theorem dX11_shades_15 : decode cX11_shades 15 = .ok (.iload_n 1, 1) := by decide +kernel
theorem dX11_shades_16 : decode cX11_shades 16 = .ok (.invokevirtual 70, 3) := by decide +kernel
theorem dX11_shades_19 : decode cX11_shades 19 = .ok (.ireturn, 1) := by decide +kernel
theorem dX11_setShade_0 : decode cX11_setShade 0 = .ok (.aload_n 0, 1) := by decide +kernel
theorem dX11_setShade_1 : decode cX11_setShade 1 = .ok (.aload_n 0, 1) := by decide +kernel
theorem dX11_setShade_2 : decode cX11_setShade 2 = .ok (.iload_n 1, 1) := by decide +kernel
theorem dX11_setShade_3 : decode cX11_setShade 3 = .ok (.iload_n 2, 1) := by decide +kernel
theorem dX11_setShade_4 : decode cX11_setShade 4 = .ok (.iload_n 3, 1) := by decide +kernel
theorem dX11_setShade_5 : decode cX11_setShade 5 = .ok (.invokevirtual 74, 3) := by decide +kernel
theorem dX11_setShade_8 : decode cX11_setShade 8 = .ok (.putfield 25, 3) := by decide +kernel
theorem dX11_setShade_11 : decode cX11_setShade 11 = .ok (.aload_n 0, 1) := by decide +kernel
theorem dX11_setShade_12 : decode cX11_setShade 12 = .ok (.getfield 25, 3) := by decide +kernel
theorem dX11_setShade_15 : decode cX11_setShade 15 = .ok (.ifCond .eq 5, 3) := by decide +kernel
theorem dX11_setShade_18 : decode cX11_setShade 18 = .ok (.iconst 0, 1) := by decide +kernel
theorem dX11_setShade_19 : decode cX11_setShade 19 = .ok (.ireturn, 1) := by decide +kernel
theorem dX11_setShade_20 : decode cX11_setShade 20 = .ok (.aload_n 0, 1) := by decide +kernel
theorem dX11_setShade_21 : decode cX11_setShade 21 = .ok (.invokevirtual 54, 3) := by decide +kernel
theorem dX11_setShade_24 : decode cX11_setShade 24 = .ok (.aload_n 0, 1) := by decide +kernel
theorem dX11_setShade_25 : decode cX11_setShade 25 = .ok (.iload_n 1, 1) := by decide +kernel
theorem dX11_setShade_26 : decode cX11_setShade 26 = .ok (.iload_n 2, 1) := by decide +kernel
theorem dX11_setShade_27 : decode cX11_setShade 27 = .ok (.iload_n 3, 1) := by decide +kernel
theorem dX11_setShade_28 : decode cX11_setShade 28 = .ok (.invokevirtual 78, 3) := by decide +kernel
theorem dX11_setShade_31 : decode cX11_setShade 31 = .ok (.ireturn, 1) := by decide +kernel
theorem dX11_settingError_0 : decode cX11_settingError 0 = .ok (.iload_n 0, 1) := by decide +kernel
theorem dX11_settingError_1 : decode cX11_settingError 1 = .ok (.ifCond .ne 13, 3) := by decide +kernel
theorem dX11_settingError_4 : decode cX11_settingError 4 = .ok (.iload_n 1, 1) := by decide +kernel
theorem dX11_settingError_5 : decode cX11_settingError 5 = .ok (.iconst 0, 1) := by decide +kernel
theorem dX11_settingError_6 : decode cX11_settingError 6 = .ok (.bipush 10, 2) := by decide +kernel
theorem dX11_settingError_8 : decode cX11_settingError 8 = .ok (.invokestatic 29, 3) := by decide +kernel
theorem dX11_settingError_11 : decode cX11_settingError 11 = .ok (.ifCond .ne 18, 3) := by decide +kernel
theorem dX11_settingError_14 : decode cX11_settingError 14 = .ok (.iload_n 0, 1) := by decide +kernel
theorem dX11_settingError_15 : decode cX11_settingError 15 = .ok (.iconst 1, 1) := by decide +kernel
theorem dX11_settingError_16 : decode cX11_settingError 16 = .ok (.if_icmp .ne 17, 3) := by decide +kernel
theorem dX11_settingError_19 : decode cX11_settingError 19 = .ok (.iload_n 1, 1) := by decide +kernel
theorem dX11_settingError_20 : decode cX11_settingError 20 = .ok (.iconst 1, 1) := by decide +kernel
theorem dX11_settingError_21 : decode cX11_settingError 21 = .ok (.bipush 9, 2) := by decide +kernel
theorem dX11_settingError_23 : decode cX11_settingError 23 = .ok (.invokestatic 29, 3) := by decide +kernel
theorem dX11_settingError_26 : decode cX11_settingError 26 = .ok (.ifCond .eq 7, 3) := by decide +kernel
theorem dX11_settingError_29 : decode cX11_settingError 29 = .ok (.iconst 1, 1) := by decide +kernel
theorem dX11_settingError_30 : decode cX11_settingError 30 = .ok (.goto 4, 3) := by decide +kernel
theorem dX11_settingError_33 : decode cX11_settingError 33 = .ok (.iconst 0, 1) := by decide +kernel
theorem dX11_settingError_34 : decode cX11_settingError 34 = .ok (.istore_n 2, 1) := by decide +kernel
theorem dX11_settingError_35 : decode cX11_settingError 35 = .ok (.iload_n 2, 1) := by decide +kernel
theorem dX11_settingError_36 : decode cX11_settingError 36 = .ok (.ifCond .eq 7, 3) := by decide +kernel
theorem dX11_settingError_39 : decode cX11_settingError 39 = .ok (.iconst 0, 1) := by decide +kernel
theorem dX11_settingError_40 : decode cX11_settingError 40 = .ok (.goto 4, 3) := by decide +kernel
theorem dX11_settingError_43 : decode cX11_settingError 43 = .ok (.iconst 1, 1) := by decide +kernel
theorem dX11_settingError_44 : decode cX11_settingError 44 = .ok (.ireturn, 1) := by decide +kernel
theorem dX11_sets_0 : decode cX11_sets 0 = .ok (.aload_n 0, 1) := by decide +kernel
theorem dX11_sets_1 : decode cX11_sets 1 = .ok (.getfield 7, 3) := by decide +kernel
theorem dX11_sets_4 : decode cX11_sets 4 = .ok (.iconst 3, 1) := by decide +kernel
theorem dX11_sets_5 : decode cX11_sets 5 = .ok (.iload_n 1, 1) := by decide +kernel
theorem dX11_sets_6 : decode cX11_sets 6 = .ok (.iadd, 1) := by decide +kernel
theorem dX11_sets_7 : decode cX11_sets 7 = .ok (.iaload, 1) := by decide +kernel
theorem dX11_sets_8 : decode cX11_sets 8 = .ok (.istore_n 3, 1) := by decide +kernel
theorem dX11_sets_9 : decode cX11_sets 9 = .ok (.aload_n 0, 1) := by decide +kernel
theorem dX11_sets_10 : decode cX11_sets 10 = .ok (.getfield 7, 3) := by decide +kernel
theorem dX11_sets_13 : decode cX11_sets 13 = .ok (.iconst 3, 1) := by decide +kernel
theorem dX11_sets_14 : decode cX11_sets 14 = .ok (.iload_n 1, 1) := by decide +kernel
theorem dX11_sets_15 : decode cX11_sets 15 = .ok (.iadd, 1) := by decide +kernel
theorem dX11_sets_16 : decode cX11_sets 16 = .ok (.iload_n 2, 1) := by decide +kernel
theorem dX11_sets_17 : decode cX11_sets 17 = .ok (.iastore, 1) := by decide +kernel
theorem dX11_sets_18 : decode cX11_sets 18 = .ok (.iload_n 3, 1) := by decide +kernel
theorem dX11_sets_19 : decode cX11_sets 19 = .ok (.ireturn, 1) := by decide +kernel
theorem dX11_set_0 : decode cX11_set 0 = .ok (.aload_n 0, 1) := by decide +kernel
theorem dX11_set_1 : decode cX11_set 1 = .ok (.iload_n 1, 1) := by decide +kernel
theorem dX11_set_2 : decode cX11_set 2 = .ok (.iload_n 2, 1) := by decide +kernel
theorem dX11_set_3 : decode cX11_set 3 = .ok (.invokestatic 81, 3) := by decide +kernel
theorem dX11_set_6 : decode cX11_set 6 = .ok (.putfield 25, 3) := by decide +kernel
theorem dX11_set_9 : decode cX11_set 9 = .ok (.aload_n 0, 1) := by decide +kernel
theorem dX11_set_10 : decode cX11_set 10 = .ok (.getfield 25, 3) := by decide +kernel
theorem dX11_set_13 : decode cX11_set 13 = .ok (.ifCond .eq 5, 3) := by decide +kernel
theorem dX11_set_16 : decode cX11_set 16 = .ok (.iconst 0, 1) := by decide +kernel
theorem dX11_set_17 : decode cX11_set 17 = .ok (.ireturn, 1) := by decide +kernel
theorem dX11_set_18 : decode cX11_set 18 = .ok (.aload_n 0, 1) := by decide +kernel
theorem dX11_set_19 : decode cX11_set 19 = .ok (.invokevirtual 54, 3) := by decide +kernel
theorem dX11_set_22 : decode cX11_set 22 = .ok (.aload_n 0, 1) := by decide +kernel
theorem dX11_set_23 : decode cX11_set 23 = .ok (.iload_n 1, 1) := by decide +kernel
theorem dX11_set_24 : decode cX11_set 24 = .ok (.iload_n 2, 1) := by decide +kernel
theorem dX11_set_25 : decode cX11_set 25 = .ok (.invokevirtual 84, 3) := by decide +kernel
theorem dX11_set_28 : decode cX11_set 28 = .ok (.ireturn, 1) := by decide +kernel
theorem dX11_orderError_0 : decode cX11_orderError 0 = .ok (.aload_n 0, 1) := by decide +kernel
theorem dX11_orderError_1 : decode cX11_orderError 1 = .ok (.iload_n 1, 1) := by decide +kernel
theorem dX11_orderError_2 : decode cX11_orderError 2 = .ok (.invokevirtual 60, 3) := by decide +kernel
theorem dX11_orderError_5 : decode cX11_orderError 5 = .ok (.ifCond .ne 5, 3) := by decide +kernel
theorem dX11_orderError_8 : decode cX11_orderError 8 = .ok (.iconst 1, 1) := by decide +kernel
theorem dX11_orderError_9 : decode cX11_orderError 9 = .ok (.ireturn, 1) := by decide +kernel
theorem dX11_orderError_10 : decode cX11_orderError 10 = .ok (.iload_n 2, 1) := by decide +kernel
theorem dX11_orderError_11 : decode cX11_orderError 11 = .ok (.iconst 1, 1) := by decide +kernel
theorem dX11_orderError_12 : decode cX11_orderError 12 = .ok (.bipush 120, 2) := by decide +kernel
theorem dX11_orderError_14 : decode cX11_orderError 14 = .ok (.invokestatic 29, 3) := by decide +kernel
theorem dX11_orderError_17 : decode cX11_orderError 17 = .ok (.ifCond .eq 13, 3) := by decide +kernel
theorem dX11_orderError_20 : decode cX11_orderError 20 = .ok (.iload_n 3, 1) := by decide +kernel
theorem dX11_orderError_21 : decode cX11_orderError 21 = .ok (.iconst 1, 1) := by decide +kernel
theorem dX11_orderError_22 : decode cX11_orderError 22 = .ok (.bipush 9, 2) := by decide +kernel
theorem dX11_orderError_24 : decode cX11_orderError 24 = .ok (.invokestatic 29, 3) := by decide +kernel
theorem dX11_orderError_27 : decode cX11_orderError 27 = .ok (.ifCond .ne 5, 3) := by decide +kernel
theorem dX11_orderError_30 : decode cX11_orderError 30 = .ok (.iconst 2, 1) := by decide +kernel
theorem dX11_orderError_31 : decode cX11_orderError 31 = .ok (.ireturn, 1) := by decide +kernel
theorem dX11_orderError_32 : decode cX11_orderError 32 = .ok (.aload_n 0, 1) := by decide +kernel
theorem dX11_orderError_33 : decode cX11_orderError 33 = .ok (.getfield 7, 3) := by decide +kernel
theorem dX11_orderError_36 : decode cX11_orderError 36 = .ok (.iconst 1, 1) := by decide +kernel
theorem dX11_orderError_37 : decode cX11_orderError 37 = .ok (.iaload, 1) := by decide +kernel
theorem dX11_orderError_38 : decode cX11_orderError 38 = .ok (.bipush 20, 2) := by decide +kernel
theorem dX11_orderError_40 : decode cX11_orderError 40 = .ok (.if_icmp .ge 7, 3) := by decide +kernel
theorem dX11_orderError_43 : decode cX11_orderError 43 = .ok (.iconst 0, 1) := by decide +kernel
theorem dX11_orderError_44 : decode cX11_orderError 44 = .ok (.goto 4, 3) := by decide +kernel
theorem dX11_orderError_47 : decode cX11_orderError 47 = .ok (.iconst 3, 1) := by decide +kernel
theorem dX11_orderError_48 : decode cX11_orderError 48 = .ok (.ireturn, 1) := by decide +kernel
theorem dX11_places_0 : decode cX11_places 0 = .ok (.aload_n 0, 1) := by decide +kernel
theorem dX11_places_1 : decode cX11_places 1 = .ok (.getfield 7, 3) := by decide +kernel
theorem dX11_places_4 : decode cX11_places 4 = .ok (.iconst 1, 1) := by decide +kernel
theorem dX11_places_5 : decode cX11_places 5 = .ok (.iaload, 1) := by decide +kernel
theorem dX11_places_6 : decode cX11_places 6 = .ok (.istore 4, 2) := by decide +kernel
theorem dX11_places_8 : decode cX11_places 8 = .ok (.aload_n 0, 1) := by decide +kernel
theorem dX11_places_9 : decode cX11_places 9 = .ok (.getfield 7, 3) := by decide +kernel
theorem dX11_places_12 : decode cX11_places 12 = .ok (.iconst 1, 1) := by decide +kernel
theorem dX11_places_13 : decode cX11_places 13 = .ok (.dup2, 1) := by decide +kernel
theorem dX11_places_14 : decode cX11_places 14 = .ok (.iaload, 1) := by decide +kernel
theorem dX11_places_15 : decode cX11_places 15 = .ok (.iconst 1, 1) := by decide +kernel
theorem dX11_places_16 : decode cX11_places 16 = .ok (.iadd, 1) := by decide +kernel
theorem dX11_places_17 : decode cX11_places 17 = .ok (.iastore, 1) := by decide +kernel
theorem dX11_places_18 : decode cX11_places 18 = .ok (.aload_n 0, 1) := by decide +kernel
theorem dX11_places_19 : decode cX11_places 19 = .ok (.iload 4, 2) := by decide +kernel
theorem dX11_places_21 : decode cX11_places 21 = .ok (.iconst 0, 1) := by decide +kernel
theorem dX11_places_22 : decode cX11_places 22 = .ok (.aload_n 0, 1) := by decide +kernel
theorem dX11_places_23 : decode cX11_places 23 = .ok (.getfield 7, 3) := by decide +kernel
theorem dX11_places_26 : decode cX11_places 26 = .ok (.iconst 5, 1) := by decide +kernel
theorem dX11_places_27 : decode cX11_places 27 = .ok (.iaload, 1) := by decide +kernel
theorem dX11_places_28 : decode cX11_places 28 = .ok (.invokevirtual 87, 3) := by decide +kernel
theorem dX11_places_31 : decode cX11_places 31 = .ok (.aload_n 0, 1) := by decide +kernel
theorem dX11_places_32 : decode cX11_places 32 = .ok (.iload 4, 2) := by decide +kernel
theorem dX11_places_34 : decode cX11_places 34 = .ok (.iconst 1, 1) := by decide +kernel
theorem dX11_places_35 : decode cX11_places 35 = .ok (.iload_n 1, 1) := by decide +kernel
theorem dX11_places_36 : decode cX11_places 36 = .ok (.invokevirtual 87, 3) := by decide +kernel
theorem dX11_places_39 : decode cX11_places 39 = .ok (.aload_n 0, 1) := by decide +kernel
theorem dX11_places_40 : decode cX11_places 40 = .ok (.iload 4, 2) := by decide +kernel
theorem dX11_places_42 : decode cX11_places 42 = .ok (.iconst 2, 1) := by decide +kernel
theorem dX11_places_43 : decode cX11_places 43 = .ok (.iload_n 2, 1) := by decide +kernel
theorem dX11_places_44 : decode cX11_places 44 = .ok (.invokevirtual 87, 3) := by decide +kernel
theorem dX11_places_47 : decode cX11_places 47 = .ok (.aload_n 0, 1) := by decide +kernel
theorem dX11_places_48 : decode cX11_places 48 = .ok (.iload 4, 2) := by decide +kernel
theorem dX11_places_50 : decode cX11_places 50 = .ok (.iconst 3, 1) := by decide +kernel
theorem dX11_places_51 : decode cX11_places 51 = .ok (.iload_n 3, 1) := by decide +kernel
theorem dX11_places_52 : decode cX11_places 52 = .ok (.invokevirtual 87, 3) := by decide +kernel
theorem dX11_places_55 : decode cX11_places 55 = .ok (.aload_n 0, 1) := by decide +kernel
theorem dX11_places_56 : decode cX11_places 56 = .ok (.iload 4, 2) := by decide +kernel
theorem dX11_places_58 : decode cX11_places 58 = .ok (.iconst 4, 1) := by decide +kernel
theorem dX11_places_59 : decode cX11_places 59 = .ok (.aload_n 0, 1) := by decide +kernel
theorem dX11_places_60 : decode cX11_places 60 = .ok (.getfield 7, 3) := by decide +kernel
theorem dX11_places_63 : decode cX11_places 63 = .ok (.iconst 2, 1) := by decide +kernel
theorem dX11_places_64 : decode cX11_places 64 = .ok (.iaload, 1) := by decide +kernel
theorem dX11_places_65 : decode cX11_places 65 = .ok (.invokevirtual 87, 3) := by decide +kernel
theorem dX11_places_68 : decode cX11_places 68 = .ok (.aload_n 0, 1) := by decide +kernel
theorem dX11_places_69 : decode cX11_places 69 = .ok (.getfield 7, 3) := by decide +kernel
theorem dX11_places_72 : decode cX11_places 72 = .ok (.iconst 5, 1) := by decide +kernel
theorem dX11_places_73 : decode cX11_places 73 = .ok (.dup2, 1) := by decide +kernel
theorem dX11_places_74 : decode cX11_places 74 = .ok (.iaload, 1) := by decide +kernel
theorem dX11_places_75 : decode cX11_places 75 = .ok (.iconst 1, 1) := by decide +kernel
theorem dX11_places_76 : decode cX11_places 76 = .ok (.iadd, 1) := by decide +kernel
theorem dX11_places_77 : decode cX11_places 77 = .ok (.iastore, 1) := by decide +kernel
theorem dX11_places_78 : decode cX11_places 78 = .ok (.aload_n 0, 1) := by decide +kernel
theorem dX11_places_79 : decode cX11_places 79 = .ok (.iload 4, 2) := by decide +kernel
theorem dX11_places_81 : decode cX11_places 81 = .ok (.iconst 0, 1) := by decide +kernel
theorem dX11_places_82 : decode cX11_places 82 = .ok (.invokevirtual 33, 3) := by decide +kernel
theorem dX11_places_85 : decode cX11_places 85 = .ok (.ireturn, 1) := by decide +kernel
theorem dX11_bid_0 : decode cX11_bid 0 = .ok (.aload_n 0, 1) := by decide +kernel
theorem dX11_bid_1 : decode cX11_bid 1 = .ok (.aload_n 0, 1) := by decide +kernel
theorem dX11_bid_2 : decode cX11_bid 2 = .ok (.iload_n 1, 1) := by decide +kernel
theorem dX11_bid_3 : decode cX11_bid 3 = .ok (.iconst 1, 1) := by decide +kernel
theorem dX11_bid_4 : decode cX11_bid 4 = .ok (.iload_n 2, 1) := by decide +kernel
theorem dX11_bid_5 : decode cX11_bid 5 = .ok (.invokevirtual 90, 3) := by decide +kernel
theorem dX11_bid_8 : decode cX11_bid 8 = .ok (.putfield 25, 3) := by decide +kernel
theorem dX11_bid_11 : decode cX11_bid 11 = .ok (.aload_n 0, 1) := by decide +kernel
theorem dX11_bid_12 : decode cX11_bid 12 = .ok (.getfield 25, 3) := by decide +kernel
theorem dX11_bid_15 : decode cX11_bid 15 = .ok (.ifCond .eq 5, 3) := by decide +kernel
theorem dX11_bid_18 : decode cX11_bid 18 = .ok (.iconst 0, 1) := by decide +kernel
theorem dX11_bid_19 : decode cX11_bid 19 = .ok (.ireturn, 1) := by decide +kernel
theorem dX11_bid_20 : decode cX11_bid 20 = .ok (.aload_n 0, 1) := by decide +kernel
theorem dX11_bid_21 : decode cX11_bid 21 = .ok (.invokevirtual 54, 3) := by decide +kernel
theorem dX11_bid_24 : decode cX11_bid 24 = .ok (.aload_n 0, 1) := by decide +kernel
theorem dX11_bid_25 : decode cX11_bid 25 = .ok (.iload_n 1, 1) := by decide +kernel
theorem dX11_bid_26 : decode cX11_bid 26 = .ok (.aload_n 0, 1) := by decide +kernel
theorem dX11_bid_27 : decode cX11_bid 27 = .ok (.iload_n 1, 1) := by decide +kernel
theorem dX11_bid_28 : decode cX11_bid 28 = .ok (.invokevirtual 70, 3) := by decide +kernel
theorem dX11_bid_31 : decode cX11_bid 31 = .ok (.iload_n 2, 1) := by decide +kernel
theorem dX11_bid_32 : decode cX11_bid 32 = .ok (.invokevirtual 93, 3) := by decide +kernel
theorem dX11_bid_35 : decode cX11_bid 35 = .ok (.ireturn, 1) := by decide +kernel
theorem dX11_order_0 : decode cX11_order 0 = .ok (.aload_n 0, 1) := by decide +kernel
theorem dX11_order_1 : decode cX11_order 1 = .ok (.aload_n 0, 1) := by decide +kernel
theorem dX11_order_2 : decode cX11_order 2 = .ok (.iload_n 1, 1) := by decide +kernel
theorem dX11_order_3 : decode cX11_order 3 = .ok (.iload_n 2, 1) := by decide +kernel
theorem dX11_order_4 : decode cX11_order 4 = .ok (.iload_n 3, 1) := by decide +kernel
theorem dX11_order_5 : decode cX11_order 5 = .ok (.invokevirtual 90, 3) := by decide +kernel
theorem dX11_order_8 : decode cX11_order 8 = .ok (.putfield 25, 3) := by decide +kernel
theorem dX11_order_11 : decode cX11_order 11 = .ok (.aload_n 0, 1) := by decide +kernel
theorem dX11_order_12 : decode cX11_order 12 = .ok (.getfield 25, 3) := by decide +kernel
theorem dX11_order_15 : decode cX11_order 15 = .ok (.ifCond .eq 5, 3) := by decide +kernel
theorem dX11_order_18 : decode cX11_order 18 = .ok (.iconst 0, 1) := by decide +kernel
theorem dX11_order_19 : decode cX11_order 19 = .ok (.ireturn, 1) := by decide +kernel
theorem dX11_order_20 : decode cX11_order 20 = .ok (.aload_n 0, 1) := by decide +kernel
theorem dX11_order_21 : decode cX11_order 21 = .ok (.invokevirtual 54, 3) := by decide +kernel
theorem dX11_order_24 : decode cX11_order 24 = .ok (.aload_n 0, 1) := by decide +kernel
theorem dX11_order_25 : decode cX11_order 25 = .ok (.iload_n 1, 1) := by decide +kernel
theorem dX11_order_26 : decode cX11_order 26 = .ok (.iload_n 2, 1) := by decide +kernel
theorem dX11_order_27 : decode cX11_order 27 = .ok (.iload_n 3, 1) := by decide +kernel
theorem dX11_order_28 : decode cX11_order 28 = .ok (.invokevirtual 93, 3) := by decide +kernel
theorem dX11_order_31 : decode cX11_order 31 = .ok (.ireturn, 1) := by decide +kernel
theorem dX11_removes_0 : decode cX11_removes 0 = .ok (.aload_n 0, 1) := by decide +kernel
theorem dX11_removes_1 : decode cX11_removes 1 = .ok (.getfield 7, 3) := by decide +kernel
theorem dX11_removes_4 : decode cX11_removes 4 = .ok (.iconst 1, 1) := by decide +kernel
theorem dX11_removes_5 : decode cX11_removes 5 = .ok (.dup2, 1) := by decide +kernel
theorem dX11_removes_6 : decode cX11_removes 6 = .ok (.iaload, 1) := by decide +kernel
theorem dX11_removes_7 : decode cX11_removes 7 = .ok (.iconst 1, 1) := by decide +kernel
theorem dX11_removes_8 : decode cX11_removes 8 = .ok (.isub, 1) := by decide +kernel
theorem dX11_removes_9 : decode cX11_removes 9 = .ok (.iastore, 1) := by decide +kernel
theorem dX11_removes_10 : decode cX11_removes 10 = .ok (.iconst 5, 1) := by decide +kernel
theorem dX11_removes_11 : decode cX11_removes 11 = .ok (.iload_n 1, 1) := by decide +kernel
theorem dX11_removes_12 : decode cX11_removes 12 = .ok (.imul, 1) := by decide +kernel
theorem dX11_removes_13 : decode cX11_removes 13 = .ok (.istore_n 2, 1) := by decide +kernel
theorem dX11_removes_14 : decode cX11_removes 14 = .ok (.iload_n 2, 1) := by decide +kernel
theorem dX11_removes_15 : decode cX11_removes 15 = .ok (.iconst 5, 1) := by decide +kernel
theorem dX11_removes_16 : decode cX11_removes 16 = .ok (.aload_n 0, 1) := by decide +kernel
theorem dX11_removes_17 : decode cX11_removes 17 = .ok (.getfield 7, 3) := by decide +kernel
theorem dX11_removes_20 : decode cX11_removes 20 = .ok (.iconst 1, 1) := by decide +kernel
theorem dX11_removes_21 : decode cX11_removes 21 = .ok (.iaload, 1) := by decide +kernel
theorem dX11_removes_22 : decode cX11_removes 22 = .ok (.imul, 1) := by decide +kernel
theorem dX11_removes_23 : decode cX11_removes 23 = .ok (.if_icmp .ge 29, 3) := by decide +kernel
theorem dX11_removes_26 : decode cX11_removes 26 = .ok (.aload_n 0, 1) := by decide +kernel
theorem dX11_removes_27 : decode cX11_removes 27 = .ok (.getfield 7, 3) := by decide +kernel
theorem dX11_removes_30 : decode cX11_removes 30 = .ok (.bipush 67, 2) := by decide +kernel
theorem dX11_removes_32 : decode cX11_removes 32 = .ok (.iload_n 2, 1) := by decide +kernel
theorem dX11_removes_33 : decode cX11_removes 33 = .ok (.iadd, 1) := by decide +kernel
theorem dX11_removes_34 : decode cX11_removes 34 = .ok (.aload_n 0, 1) := by decide +kernel
theorem dX11_removes_35 : decode cX11_removes 35 = .ok (.getfield 7, 3) := by decide +kernel
theorem dX11_removes_38 : decode cX11_removes 38 = .ok (.bipush 67, 2) := by decide +kernel
theorem dX11_removes_40 : decode cX11_removes 40 = .ok (.iload_n 2, 1) := by decide +kernel
theorem dX11_removes_41 : decode cX11_removes 41 = .ok (.iadd, 1) := by decide +kernel
theorem dX11_removes_42 : decode cX11_removes 42 = .ok (.iconst 5, 1) := by decide +kernel
theorem dX11_removes_43 : decode cX11_removes 43 = .ok (.iadd, 1) := by decide +kernel
theorem dX11_removes_44 : decode cX11_removes 44 = .ok (.iaload, 1) := by decide +kernel
theorem dX11_removes_45 : decode cX11_removes 45 = .ok (.iastore, 1) := by decide +kernel
theorem dX11_removes_46 : decode cX11_removes 46 = .ok (.iinc 2 1, 3) := by decide +kernel
theorem dX11_removes_49 : decode cX11_removes 49 = .ok (.goto (-35), 3) := by decide +kernel
theorem dX11_removes_52 : decode cX11_removes 52 = .ok (.return_, 1) := by decide +kernel
theorem dX11_cancels_0 : decode cX11_cancels 0 = .ok (.aload_n 0, 1) := by decide +kernel
theorem dX11_cancels_1 : decode cX11_cancels 1 = .ok (.iload_n 1, 1) := by decide +kernel
theorem dX11_cancels_2 : decode cX11_cancels 2 = .ok (.iconst 3, 1) := by decide +kernel
theorem dX11_cancels_3 : decode cX11_cancels 3 = .ok (.invokevirtual 33, 3) := by decide +kernel
theorem dX11_cancels_6 : decode cX11_cancels 6 = .ok (.istore_n 2, 1) := by decide +kernel
theorem dX11_cancels_7 : decode cX11_cancels 7 = .ok (.aload_n 0, 1) := by decide +kernel
theorem dX11_cancels_8 : decode cX11_cancels 8 = .ok (.iload_n 1, 1) := by decide +kernel
theorem dX11_cancels_9 : decode cX11_cancels 9 = .ok (.invokevirtual 96, 3) := by decide +kernel
theorem dX11_cancels_12 : decode cX11_cancels 12 = .ok (.iload_n 2, 1) := by decide +kernel
theorem dX11_cancels_13 : decode cX11_cancels 13 = .ok (.ireturn, 1) := by decide +kernel
theorem dX11_cancel_0 : decode cX11_cancel 0 = .ok (.aload_n 0, 1) := by decide +kernel
theorem dX11_cancel_1 : decode cX11_cancel 1 = .ok (.aload_n 0, 1) := by decide +kernel
theorem dX11_cancel_2 : decode cX11_cancel 2 = .ok (.iload_n 1, 1) := by decide +kernel
theorem dX11_cancel_3 : decode cX11_cancel 3 = .ok (.invokevirtual 99, 3) := by decide +kernel
theorem dX11_cancel_6 : decode cX11_cancel 6 = .ok (.ifCond .ge 7, 3) := by decide +kernel
theorem dX11_cancel_9 : decode cX11_cancel 9 = .ok (.iconst 1, 1) := by decide +kernel
theorem dX11_cancel_10 : decode cX11_cancel 10 = .ok (.goto 4, 3) := by decide +kernel
theorem dX11_cancel_13 : decode cX11_cancel 13 = .ok (.iconst 0, 1) := by decide +kernel
theorem dX11_cancel_14 : decode cX11_cancel 14 = .ok (.putfield 25, 3) := by decide +kernel
theorem dX11_cancel_17 : decode cX11_cancel 17 = .ok (.aload_n 0, 1) := by decide +kernel
theorem dX11_cancel_18 : decode cX11_cancel 18 = .ok (.getfield 25, 3) := by decide +kernel
theorem dX11_cancel_21 : decode cX11_cancel 21 = .ok (.ifCond .eq 5, 3) := by decide +kernel
theorem dX11_cancel_24 : decode cX11_cancel 24 = .ok (.iconst 0, 1) := by decide +kernel
theorem dX11_cancel_25 : decode cX11_cancel 25 = .ok (.ireturn, 1) := by decide +kernel
theorem dX11_cancel_26 : decode cX11_cancel 26 = .ok (.aload_n 0, 1) := by decide +kernel
theorem dX11_cancel_27 : decode cX11_cancel 27 = .ok (.invokevirtual 54, 3) := by decide +kernel
theorem dX11_cancel_30 : decode cX11_cancel 30 = .ok (.aload_n 0, 1) := by decide +kernel
theorem dX11_cancel_31 : decode cX11_cancel 31 = .ok (.aload_n 0, 1) := by decide +kernel
theorem dX11_cancel_32 : decode cX11_cancel 32 = .ok (.iload_n 1, 1) := by decide +kernel
theorem dX11_cancel_33 : decode cX11_cancel 33 = .ok (.invokevirtual 99, 3) := by decide +kernel
theorem dX11_cancel_36 : decode cX11_cancel 36 = .ok (.invokevirtual 102, 3) := by decide +kernel
theorem dX11_cancel_39 : decode cX11_cancel 39 = .ok (.ireturn, 1) := by decide +kernel
theorem dX11_sideOf_0 : decode cX11_sideOf 0 = .ok (.aload_n 0, 1) := by decide +kernel
theorem dX11_sideOf_1 : decode cX11_sideOf 1 = .ok (.aload_n 0, 1) := by decide +kernel
theorem dX11_sideOf_2 : decode cX11_sideOf 2 = .ok (.iload_n 1, 1) := by decide +kernel
theorem dX11_sideOf_3 : decode cX11_sideOf 3 = .ok (.iconst 1, 1) := by decide +kernel
theorem dX11_sideOf_4 : decode cX11_sideOf 4 = .ok (.invokevirtual 33, 3) := by decide +kernel
theorem dX11_sideOf_7 : decode cX11_sideOf 7 = .ok (.iconst 0, 1) := by decide +kernel
theorem dX11_sideOf_8 : decode cX11_sideOf 8 = .ok (.invokevirtual 64, 3) := by decide +kernel
theorem dX11_sideOf_11 : decode cX11_sideOf 11 = .ok (.ireturn, 1) := by decide +kernel
theorem dX11_isGood_0 : decode cX11_isGood 0 = .ok (.aload_n 0, 1) := by decide +kernel
theorem dX11_isGood_1 : decode cX11_isGood 1 = .ok (.iload_n 1, 1) := by decide +kernel
theorem dX11_isGood_2 : decode cX11_isGood 2 = .ok (.invokevirtual 105, 3) := by decide +kernel
theorem dX11_isGood_5 : decode cX11_isGood 5 = .ok (.ifCond .ne 21, 3) := by decide +kernel
theorem dX11_isGood_8 : decode cX11_isGood 8 = .ok (.aload_n 0, 1) := by decide +kernel
theorem dX11_isGood_9 : decode cX11_isGood 9 = .ok (.iload_n 1, 1) := by decide +kernel
theorem dX11_isGood_10 : decode cX11_isGood 10 = .ok (.iconst 2, 1) := by decide +kernel
theorem dX11_isGood_11 : decode cX11_isGood 11 = .ok (.invokevirtual 33, 3) := by decide +kernel
theorem dX11_isGood_14 : decode cX11_isGood 14 = .ok (.iload_n 2, 1) := by decide +kernel
theorem dX11_isGood_15 : decode cX11_isGood 15 = .ok (.if_icmp .lt 7, 3) := by decide +kernel
theorem dX11_isGood_18 : decode cX11_isGood 18 = .ok (.iconst 1, 1) := by decide +kernel
theorem dX11_isGood_19 : decode cX11_isGood 19 = .ok (.goto 22, 3) := by decide +kernel
theorem dX11_isGood_22 : decode cX11_isGood 22 = .ok (.iconst 0, 1) := by decide +kernel
theorem dX11_isGood_23 : decode cX11_isGood 23 = .ok (.goto 18, 3) := by decide +kernel
theorem dX11_isGood_26 : decode cX11_isGood 26 = .ok (.aload_n 0, 1) := by decide +kernel
theorem dX11_isGood_27 : decode cX11_isGood 27 = .ok (.iload_n 1, 1) := by decide +kernel
theorem dX11_isGood_28 : decode cX11_isGood 28 = .ok (.iconst 2, 1) := by decide +kernel
theorem dX11_isGood_29 : decode cX11_isGood 29 = .ok (.invokevirtual 33, 3) := by decide +kernel
theorem dX11_isGood_32 : decode cX11_isGood 32 = .ok (.iload_n 2, 1) := by decide +kernel
theorem dX11_isGood_33 : decode cX11_isGood 33 = .ok (.if_icmp .gt 7, 3) := by decide +kernel
theorem dX11_isGood_36 : decode cX11_isGood 36 = .ok (.iconst 1, 1) := by decide +kernel
theorem dX11_isGood_37 : decode cX11_isGood 37 = .ok (.goto 4, 3) := by decide +kernel
theorem dX11_isGood_40 : decode cX11_isGood 40 = .ok (.iconst 0, 1) := by decide +kernel
theorem dX11_isGood_41 : decode cX11_isGood 41 = .ok (.ireturn, 1) := by decide +kernel
theorem dX11_unitsAt_0 : decode cX11_unitsAt 0 = .ok (.iconst 0, 1) := by decide +kernel
theorem dX11_unitsAt_1 : decode cX11_unitsAt 1 = .ok (.istore_n 3, 1) := by decide +kernel
theorem dX11_unitsAt_2 : decode cX11_unitsAt 2 = .ok (.iconst 0, 1) := by decide +kernel
theorem dX11_unitsAt_3 : decode cX11_unitsAt 3 = .ok (.istore 4, 2) := by decide +kernel
theorem dX11_unitsAt_5 : decode cX11_unitsAt 5 = .ok (.iload 4, 2) := by decide +kernel
theorem dX11_unitsAt_7 : decode cX11_unitsAt 7 = .ok (.aload_n 0, 1) := by decide +kernel
theorem dX11_unitsAt_8 : decode cX11_unitsAt 8 = .ok (.getfield 7, 3) := by decide +kernel
theorem dX11_unitsAt_11 : decode cX11_unitsAt 11 = .ok (.iconst 1, 1) := by decide +kernel
theorem dX11_unitsAt_12 : decode cX11_unitsAt 12 = .ok (.iaload, 1) := by decide +kernel
theorem dX11_unitsAt_13 : decode cX11_unitsAt 13 = .ok (.if_icmp .ge 43, 3) := by decide +kernel
theorem dX11_unitsAt_16 : decode cX11_unitsAt 16 = .ok (.iload_n 3, 1) := by decide +kernel
theorem dX11_unitsAt_17 : decode cX11_unitsAt 17 = .ok (.aload_n 0, 1) := by decide +kernel
theorem dX11_unitsAt_18 : decode cX11_unitsAt 18 = .ok (.iload 4, 2) := by decide +kernel
theorem dX11_unitsAt_20 : decode cX11_unitsAt 20 = .ok (.invokevirtual 105, 3) := by decide +kernel
theorem dX11_unitsAt_23 : decode cX11_unitsAt 23 = .ok (.iload_n 1, 1) := by decide +kernel
theorem dX11_unitsAt_24 : decode cX11_unitsAt 24 = .ok (.if_icmp .ne 23, 3) := by decide +kernel
theorem dX11_unitsAt_27 : decode cX11_unitsAt 27 = .ok (.aload_n 0, 1) := by decide +kernel
theorem dX11_unitsAt_28 : decode cX11_unitsAt 28 = .ok (.iload 4, 2) := by decide +kernel
theorem dX11_unitsAt_30 : decode cX11_unitsAt 30 = .ok (.iload_n 2, 1) := by decide +kernel
theorem dX11_unitsAt_31 : decode cX11_unitsAt 31 = .ok (.invokevirtual 108, 3) := by decide +kernel
theorem dX11_unitsAt_34 : decode cX11_unitsAt 34 = .ok (.ifCond .eq 13, 3) := by decide +kernel
theorem dX11_unitsAt_37 : decode cX11_unitsAt 37 = .ok (.aload_n 0, 1) := by decide +kernel
theorem dX11_unitsAt_38 : decode cX11_unitsAt 38 = .ok (.iload 4, 2) := by decide +kernel
theorem dX11_unitsAt_40 : decode cX11_unitsAt 40 = .ok (.iconst 3, 1) := by decide +kernel
theorem dX11_unitsAt_41 : decode cX11_unitsAt 41 = .ok (.invokevirtual 33, 3) := by decide +kernel
theorem dX11_unitsAt_44 : decode cX11_unitsAt 44 = .ok (.goto 4, 3) := by decide +kernel
theorem dX11_unitsAt_47 : decode cX11_unitsAt 47 = .ok (.iconst 0, 1) := by decide +kernel
theorem dX11_unitsAt_48 : decode cX11_unitsAt 48 = .ok (.iadd, 1) := by decide +kernel
theorem dX11_unitsAt_49 : decode cX11_unitsAt 49 = .ok (.istore_n 3, 1) := by decide +kernel
theorem dX11_unitsAt_50 : decode cX11_unitsAt 50 = .ok (.iinc 4 1, 3) := by decide +kernel
theorem dX11_unitsAt_53 : decode cX11_unitsAt 53 = .ok (.goto (-48), 3) := by decide +kernel
theorem dX11_unitsAt_56 : decode cX11_unitsAt 56 = .ok (.iload_n 3, 1) := by decide +kernel
theorem dX11_unitsAt_57 : decode cX11_unitsAt 57 = .ok (.ireturn, 1) := by decide +kernel
theorem dX11_volumeAt_0 : decode cX11_volumeAt 0 = .ok (.aload_n 0, 1) := by decide +kernel
theorem dX11_volumeAt_1 : decode cX11_volumeAt 1 = .ok (.iconst 0, 1) := by decide +kernel
theorem dX11_volumeAt_2 : decode cX11_volumeAt 2 = .ok (.iload_n 1, 1) := by decide +kernel
theorem dX11_volumeAt_3 : decode cX11_volumeAt 3 = .ok (.invokevirtual 112, 3) := by decide +kernel
theorem dX11_volumeAt_6 : decode cX11_volumeAt 6 = .ok (.istore_n 2, 1) := by decide +kernel
theorem dX11_volumeAt_7 : decode cX11_volumeAt 7 = .ok (.aload_n 0, 1) := by decide +kernel
theorem dX11_volumeAt_8 : decode cX11_volumeAt 8 = .ok (.iconst 1, 1) := by decide +kernel
theorem dX11_volumeAt_9 : decode cX11_volumeAt 9 = .ok (.iload_n 1, 1) := by decide +kernel
theorem dX11_volumeAt_10 : decode cX11_volumeAt 10 = .ok (.invokevirtual 112, 3) := by decide +kernel
theorem dX11_volumeAt_13 : decode cX11_volumeAt 13 = .ok (.istore_n 3, 1) := by decide +kernel
theorem dX11_volumeAt_14 : decode cX11_volumeAt 14 = .ok (.iload_n 2, 1) := by decide +kernel
theorem dX11_volumeAt_15 : decode cX11_volumeAt 15 = .ok (.iload_n 3, 1) := by decide +kernel
theorem dX11_volumeAt_16 : decode cX11_volumeAt 16 = .ok (.if_icmp .ge 7, 3) := by decide +kernel
theorem dX11_volumeAt_19 : decode cX11_volumeAt 19 = .ok (.iload_n 2, 1) := by decide +kernel
theorem dX11_volumeAt_20 : decode cX11_volumeAt 20 = .ok (.goto 4, 3) := by decide +kernel
theorem dX11_volumeAt_23 : decode cX11_volumeAt 23 = .ok (.iload_n 3, 1) := by decide +kernel
theorem dX11_volumeAt_24 : decode cX11_volumeAt 24 = .ok (.ireturn, 1) := by decide +kernel
theorem dX11_finds_0 : decode cX11_finds 0 = .ok (.aload_n 0, 1) := by decide +kernel
theorem dX11_finds_1 : decode cX11_finds 1 = .ok (.iconst 0, 1) := by decide +kernel
theorem dX11_finds_2 : decode cX11_finds 2 = .ok (.putfield 115, 3) := by decide +kernel
theorem dX11_finds_5 : decode cX11_finds 5 = .ok (.aload_n 0, 1) := by decide +kernel
theorem dX11_finds_6 : decode cX11_finds 6 = .ok (.sipush (-10000), 3) := by decide +kernel
theorem dX11_finds_9 : decode cX11_finds 9 = .ok (.putfield 118, 3) := by decide +kernel
theorem dX11_finds_12 : decode cX11_finds 12 = .ok (.aload_n 0, 1) := by decide +kernel
theorem dX11_finds_13 : decode cX11_finds 13 = .ok (.sipush (-10000), 3) := by decide +kernel
theorem dX11_finds_16 : decode cX11_finds 16 = .ok (.putfield 121, 3) := by decide +kernel
theorem dX11_finds_19 : decode cX11_finds 19 = .ok (.iconst 1, 1) := by decide +kernel
theorem dX11_finds_20 : decode cX11_finds 20 = .ok (.istore_n 1, 1) := by decide +kernel
theorem dX11_finds_21 : decode cX11_finds 21 = .ok (.iload_n 1, 1) := by decide +kernel
theorem dX11_finds_22 : decode cX11_finds 22 = .ok (.bipush 120, 2) := by decide +kernel
theorem dX11_finds_24 : decode cX11_finds 24 = .ok (.if_icmp .gt 57, 3) := by decide +kernel
theorem dX11_finds_27 : decode cX11_finds 27 = .ok (.aload_n 0, 1) := by decide +kernel
theorem dX11_finds_28 : decode cX11_finds 28 = .ok (.iload_n 1, 1) := by decide +kernel
theorem dX11_finds_29 : decode cX11_finds 29 = .ok (.invokevirtual 124, 3) := by decide +kernel
theorem dX11_finds_32 : decode cX11_finds 32 = .ok (.istore_n 2, 1) := by decide +kernel
theorem dX11_finds_33 : decode cX11_finds 33 = .ok (.iload_n 2, 1) := by decide +kernel
theorem dX11_finds_34 : decode cX11_finds 34 = .ok (.aload_n 0, 1) := by decide +kernel
theorem dX11_finds_35 : decode cX11_finds 35 = .ok (.getfield 115, 3) := by decide +kernel
theorem dX11_finds_38 : decode cX11_finds 38 = .ok (.if_icmp .le 13, 3) := by decide +kernel
theorem dX11_finds_41 : decode cX11_finds 41 = .ok (.aload_n 0, 1) := by decide +kernel
theorem dX11_finds_42 : decode cX11_finds 42 = .ok (.iload_n 2, 1) := by decide +kernel
theorem dX11_finds_43 : decode cX11_finds 43 = .ok (.putfield 115, 3) := by decide +kernel
theorem dX11_finds_46 : decode cX11_finds 46 = .ok (.aload_n 0, 1) := by decide +kernel
theorem dX11_finds_47 : decode cX11_finds 47 = .ok (.iload_n 1, 1) := by decide +kernel
theorem dX11_finds_48 : decode cX11_finds 48 = .ok (.putfield 118, 3) := by decide +kernel
theorem dX11_finds_51 : decode cX11_finds 51 = .ok (.aload_n 0, 1) := by decide +kernel
theorem dX11_finds_52 : decode cX11_finds 52 = .ok (.iload_n 2, 1) := by decide +kernel
theorem dX11_finds_53 : decode cX11_finds 53 = .ok (.ifCond .le 15, 3) := by decide +kernel
theorem dX11_finds_56 : decode cX11_finds 56 = .ok (.iload_n 2, 1) := by decide +kernel
theorem dX11_finds_57 : decode cX11_finds 57 = .ok (.aload_n 0, 1) := by decide +kernel
theorem dX11_finds_58 : decode cX11_finds 58 = .ok (.getfield 115, 3) := by decide +kernel
theorem dX11_finds_61 : decode cX11_finds 61 = .ok (.if_icmp .ne 7, 3) := by decide +kernel
theorem dX11_finds_64 : decode cX11_finds 64 = .ok (.iload_n 1, 1) := by decide +kernel
theorem dX11_finds_65 : decode cX11_finds 65 = .ok (.goto 7, 3) := by decide +kernel
theorem dX11_finds_68 : decode cX11_finds 68 = .ok (.aload_n 0, 1) := by decide +kernel
theorem dX11_finds_69 : decode cX11_finds 69 = .ok (.getfield 121, 3) := by decide +kernel
theorem dX11_finds_72 : decode cX11_finds 72 = .ok (.putfield 121, 3) := by decide +kernel
theorem dX11_finds_75 : decode cX11_finds 75 = .ok (.iinc 1 1, 3) := by decide +kernel
theorem dX11_finds_78 : decode cX11_finds 78 = .ok (.goto (-57), 3) := by decide +kernel
theorem dX11_finds_81 : decode cX11_finds 81 = .ok (.aload_n 0, 1) := by decide +kernel
theorem dX11_finds_82 : decode cX11_finds 82 = .ok (.aload_n 0, 1) := by decide +kernel
theorem dX11_finds_83 : decode cX11_finds 83 = .ok (.getfield 115, 3) := by decide +kernel
theorem dX11_finds_86 : decode cX11_finds 86 = .ok (.ifCond .ne 9, 3) := by decide +kernel
theorem dX11_finds_89 : decode cX11_finds 89 = .ok (.sipush (-10000), 3) := by decide +kernel
theorem dX11_finds_92 : decode cX11_finds 92 = .ok (.goto 27, 3) := by decide +kernel
theorem dX11_finds_95 : decode cX11_finds 95 = .ok (.aload_n 0, 1) := by decide +kernel
theorem dX11_finds_96 : decode cX11_finds 96 = .ok (.getfield 118, 3) := by decide +kernel
theorem dX11_finds_99 : decode cX11_finds 99 = .ok (.aload_n 0, 1) := by decide +kernel
theorem dX11_finds_100 : decode cX11_finds 100 = .ok (.getfield 121, 3) := by decide +kernel
theorem dX11_finds_103 : decode cX11_finds 103 = .ok (.aload_n 0, 1) := by decide +kernel
theorem dX11_finds_104 : decode cX11_finds 104 = .ok (.getfield 118, 3) := by decide +kernel
theorem dX11_finds_107 : decode cX11_finds 107 = .ok (.isub, 1) := by decide +kernel
theorem dX11_finds_108 : decode cX11_finds 108 = .ok (.aload_n 0, 1) := by decide +kernel
theorem dX11_finds_109 : decode cX11_finds 109 = .ok (.getfield 7, 3) := by decide +kernel
theorem dX11_finds_112 : decode cX11_finds 112 = .ok (.iconst 3, 1) := by decide +kernel
theorem dX11_finds_113 : decode cX11_finds 113 = .ok (.iaload, 1) := by decide +kernel
theorem dX11_finds_114 : decode cX11_finds 114 = .ok (.imul, 1) := by decide +kernel
theorem dX11_finds_115 : decode cX11_finds 115 = .ok (.bipush 10, 2) := by decide +kernel
theorem dX11_finds_117 : decode cX11_finds 117 = .ok (.idiv, 1) := by decide +kernel
theorem dX11_finds_118 : decode cX11_finds 118 = .ok (.iadd, 1) := by decide +kernel
theorem dX11_finds_119 : decode cX11_finds 119 = .ok (.putfield 127, 3) := by decide +kernel
theorem dX11_finds_122 : decode cX11_finds 122 = .ok (.return_, 1) := by decide +kernel
theorem dX11_isAhead_0 : decode cX11_isAhead 0 = .ok (.aload_n 0, 1) := by decide +kernel
theorem dX11_isAhead_1 : decode cX11_isAhead 1 = .ok (.iload_n 1, 1) := by decide +kernel
theorem dX11_isAhead_2 : decode cX11_isAhead 2 = .ok (.invokevirtual 105, 3) := by decide +kernel
theorem dX11_isAhead_5 : decode cX11_isAhead 5 = .ok (.aload_n 0, 1) := by decide +kernel
theorem dX11_isAhead_6 : decode cX11_isAhead 6 = .ok (.iload_n 2, 1) := by decide +kernel
theorem dX11_isAhead_7 : decode cX11_isAhead 7 = .ok (.invokevirtual 105, 3) := by decide +kernel
theorem dX11_isAhead_10 : decode cX11_isAhead 10 = .ok (.if_icmp .ne 8, 3) := by decide +kernel
theorem dX11_isAhead_13 : decode cX11_isAhead 13 = .ok (.iload_n 1, 1) := by decide +kernel
theorem dX11_isAhead_14 : decode cX11_isAhead 14 = .ok (.iload_n 2, 1) := by decide +kernel
theorem dX11_isAhead_15 : decode cX11_isAhead 15 = .ok (.if_icmp .ne 5, 3) := by decide +kernel
theorem dX11_isAhead_18 : decode cX11_isAhead 18 = .ok (.iconst 0, 1) := by decide +kernel
theorem dX11_isAhead_19 : decode cX11_isAhead 19 = .ok (.ireturn, 1) := by decide +kernel
theorem dX11_isAhead_20 : decode cX11_isAhead 20 = .ok (.aload_n 0, 1) := by decide +kernel
theorem dX11_isAhead_21 : decode cX11_isAhead 21 = .ok (.iload_n 1, 1) := by decide +kernel
theorem dX11_isAhead_22 : decode cX11_isAhead 22 = .ok (.iconst 2, 1) := by decide +kernel
theorem dX11_isAhead_23 : decode cX11_isAhead 23 = .ok (.invokevirtual 33, 3) := by decide +kernel
theorem dX11_isAhead_26 : decode cX11_isAhead 26 = .ok (.istore_n 3, 1) := by decide +kernel
theorem dX11_isAhead_27 : decode cX11_isAhead 27 = .ok (.aload_n 0, 1) := by decide +kernel
theorem dX11_isAhead_28 : decode cX11_isAhead 28 = .ok (.iload_n 2, 1) := by decide +kernel
theorem dX11_isAhead_29 : decode cX11_isAhead 29 = .ok (.iconst 2, 1) := by decide +kernel
theorem dX11_isAhead_30 : decode cX11_isAhead 30 = .ok (.invokevirtual 33, 3) := by decide +kernel
theorem dX11_isAhead_33 : decode cX11_isAhead 33 = .ok (.istore 4, 2) := by decide +kernel
theorem dX11_isAhead_35 : decode cX11_isAhead 35 = .ok (.aload_n 0, 1) := by decide +kernel
theorem dX11_isAhead_36 : decode cX11_isAhead 36 = .ok (.iload_n 1, 1) := by decide +kernel
theorem dX11_isAhead_37 : decode cX11_isAhead 37 = .ok (.invokevirtual 105, 3) := by decide +kernel
theorem dX11_isAhead_40 : decode cX11_isAhead 40 = .ok (.ifCond .ne 17, 3) := by decide +kernel
theorem dX11_isAhead_43 : decode cX11_isAhead 43 = .ok (.iload_n 3, 1) := by decide +kernel
theorem dX11_isAhead_44 : decode cX11_isAhead 44 = .ok (.iload 4, 2) := by decide +kernel
theorem dX11_isAhead_46 : decode cX11_isAhead 46 = .ok (.if_icmp .le 7, 3) := by decide +kernel
theorem dX11_isAhead_49 : decode cX11_isAhead 49 = .ok (.iconst 1, 1) := by decide +kernel
theorem dX11_isAhead_50 : decode cX11_isAhead 50 = .ok (.goto 18, 3) := by decide +kernel
theorem dX11_isAhead_53 : decode cX11_isAhead 53 = .ok (.iconst 0, 1) := by decide +kernel
theorem dX11_isAhead_54 : decode cX11_isAhead 54 = .ok (.goto 14, 3) := by decide +kernel
theorem dX11_isAhead_57 : decode cX11_isAhead 57 = .ok (.iload_n 3, 1) := by decide +kernel
theorem dX11_isAhead_58 : decode cX11_isAhead 58 = .ok (.iload 4, 2) := by decide +kernel
theorem dX11_isAhead_60 : decode cX11_isAhead 60 = .ok (.if_icmp .ge 7, 3) := by decide +kernel
theorem dX11_isAhead_63 : decode cX11_isAhead 63 = .ok (.iconst 1, 1) := by decide +kernel
theorem dX11_isAhead_64 : decode cX11_isAhead 64 = .ok (.goto 4, 3) := by decide +kernel
theorem dX11_isAhead_67 : decode cX11_isAhead 67 = .ok (.iconst 0, 1) := by decide +kernel
theorem dX11_isAhead_68 : decode cX11_isAhead 68 = .ok (.istore 5, 2) := by decide +kernel
theorem dX11_isAhead_70 : decode cX11_isAhead 70 = .ok (.iload 5, 2) := by decide +kernel
theorem dX11_isAhead_72 : decode cX11_isAhead 72 = .ok (.ifCond .ne 24, 3) := by decide +kernel
theorem dX11_isAhead_75 : decode cX11_isAhead 75 = .ok (.iload_n 3, 1) := by decide +kernel
theorem dX11_isAhead_76 : decode cX11_isAhead 76 = .ok (.iload 4, 2) := by decide +kernel
theorem dX11_isAhead_78 : decode cX11_isAhead 78 = .ok (.if_icmp .ne 22, 3) := by decide +kernel
theorem dX11_isAhead_81 : decode cX11_isAhead 81 = .ok (.aload_n 0, 1) := by decide +kernel
theorem dX11_isAhead_82 : decode cX11_isAhead 82 = .ok (.iload_n 1, 1) := by decide +kernel
theorem dX11_isAhead_83 : decode cX11_isAhead 83 = .ok (.iconst 0, 1) := by decide +kernel
theorem dX11_isAhead_84 : decode cX11_isAhead 84 = .ok (.invokevirtual 33, 3) := by decide +kernel
theorem dX11_isAhead_87 : decode cX11_isAhead 87 = .ok (.aload_n 0, 1) := by decide +kernel
theorem dX11_isAhead_88 : decode cX11_isAhead 88 = .ok (.iload_n 2, 1) := by decide +kernel
theorem dX11_isAhead_89 : decode cX11_isAhead 89 = .ok (.iconst 0, 1) := by decide +kernel
theorem dX11_isAhead_90 : decode cX11_isAhead 90 = .ok (.invokevirtual 33, 3) := by decide +kernel
theorem dX11_isAhead_93 : decode cX11_isAhead 93 = .ok (.if_icmp .ge 7, 3) := by decide +kernel
theorem dX11_isAhead_96 : decode cX11_isAhead 96 = .ok (.iconst 1, 1) := by decide +kernel
theorem dX11_isAhead_97 : decode cX11_isAhead 97 = .ok (.goto 4, 3) := by decide +kernel
theorem dX11_isAhead_100 : decode cX11_isAhead 100 = .ok (.iconst 0, 1) := by decide +kernel
theorem dX11_isAhead_101 : decode cX11_isAhead 101 = .ok (.ireturn, 1) := by decide +kernel
theorem dX11_placeOf_0 : decode cX11_placeOf 0 = .ok (.iconst 0, 1) := by decide +kernel
theorem dX11_placeOf_1 : decode cX11_placeOf 1 = .ok (.istore_n 2, 1) := by decide +kernel
theorem dX11_placeOf_2 : decode cX11_placeOf 2 = .ok (.iconst 0, 1) := by decide +kernel
theorem dX11_placeOf_3 : decode cX11_placeOf 3 = .ok (.istore_n 3, 1) := by decide +kernel
theorem dX11_placeOf_4 : decode cX11_placeOf 4 = .ok (.iload_n 3, 1) := by decide +kernel
theorem dX11_placeOf_5 : decode cX11_placeOf 5 = .ok (.aload_n 0, 1) := by decide +kernel
theorem dX11_placeOf_6 : decode cX11_placeOf 6 = .ok (.getfield 7, 3) := by decide +kernel
theorem dX11_placeOf_9 : decode cX11_placeOf 9 = .ok (.iconst 1, 1) := by decide +kernel
theorem dX11_placeOf_10 : decode cX11_placeOf 10 = .ok (.iaload, 1) := by decide +kernel
theorem dX11_placeOf_11 : decode cX11_placeOf 11 = .ok (.if_icmp .ge 26, 3) := by decide +kernel
theorem dX11_placeOf_14 : decode cX11_placeOf 14 = .ok (.iload_n 2, 1) := by decide +kernel
theorem dX11_placeOf_15 : decode cX11_placeOf 15 = .ok (.aload_n 0, 1) := by decide +kernel
theorem dX11_placeOf_16 : decode cX11_placeOf 16 = .ok (.iload_n 3, 1) := by decide +kernel
theorem dX11_placeOf_17 : decode cX11_placeOf 17 = .ok (.iload_n 1, 1) := by decide +kernel
theorem dX11_placeOf_18 : decode cX11_placeOf 18 = .ok (.invokevirtual 130, 3) := by decide +kernel
theorem dX11_placeOf_21 : decode cX11_placeOf 21 = .ok (.ifCond .eq 7, 3) := by decide +kernel
theorem dX11_placeOf_24 : decode cX11_placeOf 24 = .ok (.iconst 1, 1) := by decide +kernel
theorem dX11_placeOf_25 : decode cX11_placeOf 25 = .ok (.goto 4, 3) := by decide +kernel
theorem dX11_placeOf_28 : decode cX11_placeOf 28 = .ok (.iconst 0, 1) := by decide +kernel
theorem dX11_placeOf_29 : decode cX11_placeOf 29 = .ok (.iadd, 1) := by decide +kernel
theorem dX11_placeOf_30 : decode cX11_placeOf 30 = .ok (.istore_n 2, 1) := by decide +kernel
theorem dX11_placeOf_31 : decode cX11_placeOf 31 = .ok (.iinc 3 1, 3) := by decide +kernel
theorem dX11_placeOf_34 : decode cX11_placeOf 34 = .ok (.goto (-30), 3) := by decide +kernel
theorem dX11_placeOf_37 : decode cX11_placeOf 37 = .ok (.iload_n 2, 1) := by decide +kernel
theorem dX11_placeOf_38 : decode cX11_placeOf 38 = .ok (.ireturn, 1) := by decide +kernel
theorem dX11_fillOf_0 : decode cX11_fillOf 0 = .ok (.aload_n 0, 1) := by decide +kernel
theorem dX11_fillOf_1 : decode cX11_fillOf 1 = .ok (.getfield 115, 3) := by decide +kernel
theorem dX11_fillOf_4 : decode cX11_fillOf 4 = .ok (.ifCond .eq 15, 3) := by decide +kernel
theorem dX11_fillOf_7 : decode cX11_fillOf 7 = .ok (.aload_n 0, 1) := by decide +kernel
theorem dX11_fillOf_8 : decode cX11_fillOf 8 = .ok (.iload_n 1, 1) := by decide +kernel
theorem dX11_fillOf_9 : decode cX11_fillOf 9 = .ok (.aload_n 0, 1) := by decide +kernel
theorem dX11_fillOf_10 : decode cX11_fillOf 10 = .ok (.getfield 127, 3) := by decide +kernel
theorem dX11_fillOf_13 : decode cX11_fillOf 13 = .ok (.invokevirtual 108, 3) := by decide +kernel
theorem dX11_fillOf_16 : decode cX11_fillOf 16 = .ok (.ifCond .ne 5, 3) := by decide +kernel
theorem dX11_fillOf_19 : decode cX11_fillOf 19 = .ok (.iconst 0, 1) := by decide +kernel
theorem dX11_fillOf_20 : decode cX11_fillOf 20 = .ok (.ireturn, 1) := by decide +kernel
theorem dX11_fillOf_21 : decode cX11_fillOf 21 = .ok (.aload_n 0, 1) := by decide +kernel
theorem dX11_fillOf_22 : decode cX11_fillOf 22 = .ok (.getfield 115, 3) := by decide +kernel
theorem dX11_fillOf_25 : decode cX11_fillOf 25 = .ok (.istore_n 2, 1) := by decide +kernel
theorem dX11_fillOf_26 : decode cX11_fillOf 26 = .ok (.iconst 0, 1) := by decide +kernel
theorem dX11_fillOf_27 : decode cX11_fillOf 27 = .ok (.istore_n 3, 1) := by decide +kernel
theorem dX11_fillOf_28 : decode cX11_fillOf 28 = .ok (.iload_n 3, 1) := by decide +kernel
theorem dX11_fillOf_29 : decode cX11_fillOf 29 = .ok (.aload_n 0, 1) := by decide +kernel
theorem dX11_fillOf_30 : decode cX11_fillOf 30 = .ok (.getfield 7, 3) := by decide +kernel
theorem dX11_fillOf_33 : decode cX11_fillOf 33 = .ok (.iconst 1, 1) := by decide +kernel
theorem dX11_fillOf_34 : decode cX11_fillOf 34 = .ok (.iaload, 1) := by decide +kernel
theorem dX11_fillOf_35 : decode cX11_fillOf 35 = .ok (.if_icmp .ge 31, 3) := by decide +kernel
theorem dX11_fillOf_38 : decode cX11_fillOf 38 = .ok (.iload_n 2, 1) := by decide +kernel
theorem dX11_fillOf_39 : decode cX11_fillOf 39 = .ok (.aload_n 0, 1) := by decide +kernel
theorem dX11_fillOf_40 : decode cX11_fillOf 40 = .ok (.iload_n 3, 1) := by decide +kernel
theorem dX11_fillOf_41 : decode cX11_fillOf 41 = .ok (.iload_n 1, 1) := by decide +kernel
theorem dX11_fillOf_42 : decode cX11_fillOf 42 = .ok (.invokevirtual 130, 3) := by decide +kernel
theorem dX11_fillOf_45 : decode cX11_fillOf 45 = .ok (.ifCond .eq 12, 3) := by decide +kernel
theorem dX11_fillOf_48 : decode cX11_fillOf 48 = .ok (.aload_n 0, 1) := by decide +kernel
theorem dX11_fillOf_49 : decode cX11_fillOf 49 = .ok (.iload_n 3, 1) := by decide +kernel
theorem dX11_fillOf_50 : decode cX11_fillOf 50 = .ok (.iconst 3, 1) := by decide +kernel
theorem dX11_fillOf_51 : decode cX11_fillOf 51 = .ok (.invokevirtual 33, 3) := by decide +kernel
theorem dX11_fillOf_54 : decode cX11_fillOf 54 = .ok (.goto 4, 3) := by decide +kernel
theorem dX11_fillOf_57 : decode cX11_fillOf 57 = .ok (.iconst 0, 1) := by decide +kernel
theorem dX11_fillOf_58 : decode cX11_fillOf 58 = .ok (.isub, 1) := by decide +kernel
theorem dX11_fillOf_59 : decode cX11_fillOf 59 = .ok (.istore_n 2, 1) := by decide +kernel
theorem dX11_fillOf_60 : decode cX11_fillOf 60 = .ok (.iinc 3 1, 3) := by decide +kernel
theorem dX11_fillOf_63 : decode cX11_fillOf 63 = .ok (.goto (-35), 3) := by decide +kernel
theorem dX11_fillOf_66 : decode cX11_fillOf 66 = .ok (.aload_n 0, 1) := by decide +kernel
theorem dX11_fillOf_67 : decode cX11_fillOf 67 = .ok (.iload_n 1, 1) := by decide +kernel
theorem dX11_fillOf_68 : decode cX11_fillOf 68 = .ok (.iconst 3, 1) := by decide +kernel
theorem dX11_fillOf_69 : decode cX11_fillOf 69 = .ok (.invokevirtual 33, 3) := by decide +kernel
theorem dX11_fillOf_72 : decode cX11_fillOf 72 = .ok (.istore_n 3, 1) := by decide +kernel
theorem dX11_fillOf_73 : decode cX11_fillOf 73 = .ok (.iload_n 2, 1) := by decide +kernel
theorem dX11_fillOf_74 : decode cX11_fillOf 74 = .ok (.ifCond .ge 7, 3) := by decide +kernel
theorem dX11_fillOf_77 : decode cX11_fillOf 77 = .ok (.iconst 0, 1) := by decide +kernel
theorem dX11_fillOf_78 : decode cX11_fillOf 78 = .ok (.goto 13, 3) := by decide +kernel
theorem dX11_fillOf_81 : decode cX11_fillOf 81 = .ok (.iload_n 2, 1) := by decide +kernel
theorem dX11_fillOf_82 : decode cX11_fillOf 82 = .ok (.iload_n 3, 1) := by decide +kernel
theorem dX11_fillOf_83 : decode cX11_fillOf 83 = .ok (.if_icmp .ge 7, 3) := by decide +kernel
theorem dX11_fillOf_86 : decode cX11_fillOf 86 = .ok (.iload_n 2, 1) := by decide +kernel
theorem dX11_fillOf_87 : decode cX11_fillOf 87 = .ok (.goto 4, 3) := by decide +kernel
theorem dX11_fillOf_90 : decode cX11_fillOf 90 = .ok (.iload_n 3, 1) := by decide +kernel
theorem dX11_fillOf_91 : decode cX11_fillOf 91 = .ok (.ireturn, 1) := by decide +kernel
theorem dX11_gainOf_0 : decode cX11_gainOf 0 = .ok (.aload_n 0, 1) := by decide +kernel
theorem dX11_gainOf_1 : decode cX11_gainOf 1 = .ok (.aload_n 0, 1) := by decide +kernel
theorem dX11_gainOf_2 : decode cX11_gainOf 2 = .ok (.iload_n 1, 1) := by decide +kernel
theorem dX11_gainOf_3 : decode cX11_gainOf 3 = .ok (.iconst 1, 1) := by decide +kernel
theorem dX11_gainOf_4 : decode cX11_gainOf 4 = .ok (.invokevirtual 33, 3) := by decide +kernel
theorem dX11_gainOf_7 : decode cX11_gainOf 7 = .ok (.iconst 1, 1) := by decide +kernel
theorem dX11_gainOf_8 : decode cX11_gainOf 8 = .ok (.invokevirtual 64, 3) := by decide +kernel
theorem dX11_gainOf_11 : decode cX11_gainOf 11 = .ok (.istore_n 2, 1) := by decide +kernel
theorem dX11_gainOf_12 : decode cX11_gainOf 12 = .ok (.aload_n 0, 1) := by decide +kernel
theorem dX11_gainOf_13 : decode cX11_gainOf 13 = .ok (.iload_n 1, 1) := by decide +kernel
theorem dX11_gainOf_14 : decode cX11_gainOf 14 = .ok (.invokevirtual 105, 3) := by decide +kernel
theorem dX11_gainOf_17 : decode cX11_gainOf 17 = .ok (.ifCond .ne 12, 3) := by decide +kernel
theorem dX11_gainOf_20 : decode cX11_gainOf 20 = .ok (.iload_n 2, 1) := by decide +kernel
theorem dX11_gainOf_21 : decode cX11_gainOf 21 = .ok (.aload_n 0, 1) := by decide +kernel
theorem dX11_gainOf_22 : decode cX11_gainOf 22 = .ok (.getfield 127, 3) := by decide +kernel
theorem dX11_gainOf_25 : decode cX11_gainOf 25 = .ok (.isub, 1) := by decide +kernel
theorem dX11_gainOf_26 : decode cX11_gainOf 26 = .ok (.goto 9, 3) := by decide +kernel
theorem dX11_gainOf_29 : decode cX11_gainOf 29 = .ok (.aload_n 0, 1) := by decide +kernel
theorem dX11_gainOf_30 : decode cX11_gainOf 30 = .ok (.getfield 127, 3) := by decide +kernel
theorem dX11_gainOf_33 : decode cX11_gainOf 33 = .ok (.iload_n 2, 1) := by decide +kernel
theorem dX11_gainOf_34 : decode cX11_gainOf 34 = .ok (.isub, 1) := by decide +kernel
theorem dX11_gainOf_35 : decode cX11_gainOf 35 = .ok (.ireturn, 1) := by decide +kernel
theorem dX11_gainsOf_0 : decode cX11_gainsOf 0 = .ok (.iconst 0, 1) := by decide +kernel
theorem dX11_gainsOf_1 : decode cX11_gainsOf 1 = .ok (.istore_n 2, 1) := by decide +kernel
theorem dX11_gainsOf_2 : decode cX11_gainsOf 2 = .ok (.iconst 0, 1) := by decide +kernel
theorem dX11_gainsOf_3 : decode cX11_gainsOf 3 = .ok (.istore_n 3, 1) := by decide +kernel
theorem dX11_gainsOf_4 : decode cX11_gainsOf 4 = .ok (.iload_n 3, 1) := by decide +kernel
theorem dX11_gainsOf_5 : decode cX11_gainsOf 5 = .ok (.aload_n 0, 1) := by decide +kernel
theorem dX11_gainsOf_6 : decode cX11_gainsOf 6 = .ok (.getfield 7, 3) := by decide +kernel
theorem dX11_gainsOf_9 : decode cX11_gainsOf 9 = .ok (.iconst 1, 1) := by decide +kernel
theorem dX11_gainsOf_10 : decode cX11_gainsOf 10 = .ok (.iaload, 1) := by decide +kernel
theorem dX11_gainsOf_11 : decode cX11_gainsOf 11 = .ok (.if_icmp .ge 48, 3) := by decide +kernel
theorem dX11_gainsOf_14 : decode cX11_gainsOf 14 = .ok (.iload_n 2, 1) := by decide +kernel
theorem dX11_gainsOf_15 : decode cX11_gainsOf 15 = .ok (.aload_n 0, 1) := by decide +kernel
theorem dX11_gainsOf_16 : decode cX11_gainsOf 16 = .ok (.iload_n 3, 1) := by decide +kernel
theorem dX11_gainsOf_17 : decode cX11_gainsOf 17 = .ok (.iconst 1, 1) := by decide +kernel
theorem dX11_gainsOf_18 : decode cX11_gainsOf 18 = .ok (.invokevirtual 33, 3) := by decide +kernel
theorem dX11_gainsOf_21 : decode cX11_gainsOf 21 = .ok (.iload_n 1, 1) := by decide +kernel
theorem dX11_gainsOf_22 : decode cX11_gainsOf 22 = .ok (.if_icmp .ne 28, 3) := by decide +kernel
theorem dX11_gainsOf_25 : decode cX11_gainsOf 25 = .ok (.aload_n 0, 1) := by decide +kernel
theorem dX11_gainsOf_26 : decode cX11_gainsOf 26 = .ok (.iload_n 3, 1) := by decide +kernel
theorem dX11_gainsOf_27 : decode cX11_gainsOf 27 = .ok (.invokevirtual 133, 3) := by decide +kernel
theorem dX11_gainsOf_30 : decode cX11_gainsOf 30 = .ok (.aload_n 0, 1) := by decide +kernel
theorem dX11_gainsOf_31 : decode cX11_gainsOf 31 = .ok (.getfield 115, 3) := by decide +kernel
theorem dX11_gainsOf_34 : decode cX11_gainsOf 34 = .ok (.ifCond .ne 7, 3) := by decide +kernel
theorem dX11_gainsOf_37 : decode cX11_gainsOf 37 = .ok (.iconst 0, 1) := by decide +kernel
theorem dX11_gainsOf_38 : decode cX11_gainsOf 38 = .ok (.goto 8, 3) := by decide +kernel
theorem dX11_gainsOf_41 : decode cX11_gainsOf 41 = .ok (.aload_n 0, 1) := by decide +kernel
theorem dX11_gainsOf_42 : decode cX11_gainsOf 42 = .ok (.iload_n 3, 1) := by decide +kernel
theorem dX11_gainsOf_43 : decode cX11_gainsOf 43 = .ok (.invokevirtual 136, 3) := by decide +kernel
theorem dX11_gainsOf_46 : decode cX11_gainsOf 46 = .ok (.imul, 1) := by decide +kernel
theorem dX11_gainsOf_47 : decode cX11_gainsOf 47 = .ok (.goto 4, 3) := by decide +kernel
theorem dX11_gainsOf_50 : decode cX11_gainsOf 50 = .ok (.iconst 0, 1) := by decide +kernel
theorem dX11_gainsOf_51 : decode cX11_gainsOf 51 = .ok (.iadd, 1) := by decide +kernel
theorem dX11_gainsOf_52 : decode cX11_gainsOf 52 = .ok (.istore_n 2, 1) := by decide +kernel
theorem dX11_gainsOf_53 : decode cX11_gainsOf 53 = .ok (.iinc 3 1, 3) := by decide +kernel
theorem dX11_gainsOf_56 : decode cX11_gainsOf 56 = .ok (.goto (-52), 3) := by decide +kernel
theorem dX11_gainsOf_59 : decode cX11_gainsOf 59 = .ok (.iload_n 2, 1) := by decide +kernel
theorem dX11_gainsOf_60 : decode cX11_gainsOf 60 = .ok (.ireturn, 1) := by decide +kernel
theorem dX11_surplusNow_0 : decode cX11_surplusNow 0 = .ok (.iconst 0, 1) := by decide +kernel
theorem dX11_surplusNow_1 : decode cX11_surplusNow 1 = .ok (.istore_n 1, 1) := by decide +kernel
theorem dX11_surplusNow_2 : decode cX11_surplusNow 2 = .ok (.iconst 0, 1) := by decide +kernel
theorem dX11_surplusNow_3 : decode cX11_surplusNow 3 = .ok (.istore_n 2, 1) := by decide +kernel
theorem dX11_surplusNow_4 : decode cX11_surplusNow 4 = .ok (.iload_n 2, 1) := by decide +kernel
theorem dX11_surplusNow_5 : decode cX11_surplusNow 5 = .ok (.aload_n 0, 1) := by decide +kernel
theorem dX11_surplusNow_6 : decode cX11_surplusNow 6 = .ok (.getfield 7, 3) := by decide +kernel
theorem dX11_surplusNow_9 : decode cX11_surplusNow 9 = .ok (.iconst 0, 1) := by decide +kernel
theorem dX11_surplusNow_10 : decode cX11_surplusNow 10 = .ok (.iaload, 1) := by decide +kernel
theorem dX11_surplusNow_11 : decode cX11_surplusNow 11 = .ok (.if_icmp .ge 17, 3) := by decide +kernel
theorem dX11_surplusNow_14 : decode cX11_surplusNow 14 = .ok (.iload_n 1, 1) := by decide +kernel
theorem dX11_surplusNow_15 : decode cX11_surplusNow 15 = .ok (.aload_n 0, 1) := by decide +kernel
theorem dX11_surplusNow_16 : decode cX11_surplusNow 16 = .ok (.iload_n 2, 1) := by decide +kernel
theorem dX11_surplusNow_17 : decode cX11_surplusNow 17 = .ok (.invokevirtual 139, 3) := by decide +kernel
theorem dX11_surplusNow_20 : decode cX11_surplusNow 20 = .ok (.iadd, 1) := by decide +kernel
theorem dX11_surplusNow_21 : decode cX11_surplusNow 21 = .ok (.istore_n 1, 1) := by decide +kernel
theorem dX11_surplusNow_22 : decode cX11_surplusNow 22 = .ok (.iinc 2 1, 3) := by decide +kernel
theorem dX11_surplusNow_25 : decode cX11_surplusNow 25 = .ok (.goto (-21), 3) := by decide +kernel
theorem dX11_surplusNow_28 : decode cX11_surplusNow 28 = .ok (.iload_n 1, 1) := by decide +kernel
theorem dX11_surplusNow_29 : decode cX11_surplusNow 29 = .ok (.ireturn, 1) := by decide +kernel
theorem dX11_unitsBy_0 : decode cX11_unitsBy 0 = .ok (.iconst 0, 1) := by decide +kernel
theorem dX11_unitsBy_1 : decode cX11_unitsBy 1 = .ok (.istore_n 3, 1) := by decide +kernel
theorem dX11_unitsBy_2 : decode cX11_unitsBy 2 = .ok (.iconst 0, 1) := by decide +kernel
theorem dX11_unitsBy_3 : decode cX11_unitsBy 3 = .ok (.istore 4, 2) := by decide +kernel
theorem dX11_unitsBy_5 : decode cX11_unitsBy 5 = .ok (.iload 4, 2) := by decide +kernel
theorem dX11_unitsBy_7 : decode cX11_unitsBy 7 = .ok (.aload_n 0, 1) := by decide +kernel
theorem dX11_unitsBy_8 : decode cX11_unitsBy 8 = .ok (.getfield 7, 3) := by decide +kernel
theorem dX11_unitsBy_11 : decode cX11_unitsBy 11 = .ok (.iconst 1, 1) := by decide +kernel
theorem dX11_unitsBy_12 : decode cX11_unitsBy 12 = .ok (.iaload, 1) := by decide +kernel
theorem dX11_unitsBy_13 : decode cX11_unitsBy 13 = .ok (.if_icmp .ge 49, 3) := by decide +kernel
theorem dX11_unitsBy_16 : decode cX11_unitsBy 16 = .ok (.iload_n 3, 1) := by decide +kernel
theorem dX11_unitsBy_17 : decode cX11_unitsBy 17 = .ok (.aload_n 0, 1) := by decide +kernel
theorem dX11_unitsBy_18 : decode cX11_unitsBy 18 = .ok (.iload 4, 2) := by decide +kernel
theorem dX11_unitsBy_20 : decode cX11_unitsBy 20 = .ok (.invokevirtual 105, 3) := by decide +kernel
theorem dX11_unitsBy_23 : decode cX11_unitsBy 23 = .ok (.iload_n 1, 1) := by decide +kernel
theorem dX11_unitsBy_24 : decode cX11_unitsBy 24 = .ok (.if_icmp .ne 29, 3) := by decide +kernel
theorem dX11_unitsBy_27 : decode cX11_unitsBy 27 = .ok (.aload_n 0, 1) := by decide +kernel
theorem dX11_unitsBy_28 : decode cX11_unitsBy 28 = .ok (.aload_n 0, 1) := by decide +kernel
theorem dX11_unitsBy_29 : decode cX11_unitsBy 29 = .ok (.iload 4, 2) := by decide +kernel
theorem dX11_unitsBy_31 : decode cX11_unitsBy 31 = .ok (.iconst 1, 1) := by decide +kernel
theorem dX11_unitsBy_32 : decode cX11_unitsBy 32 = .ok (.invokevirtual 33, 3) := by decide +kernel
theorem dX11_unitsBy_35 : decode cX11_unitsBy 35 = .ok (.iconst 1, 1) := by decide +kernel
theorem dX11_unitsBy_36 : decode cX11_unitsBy 36 = .ok (.invokevirtual 64, 3) := by decide +kernel
theorem dX11_unitsBy_39 : decode cX11_unitsBy 39 = .ok (.iload_n 2, 1) := by decide +kernel
theorem dX11_unitsBy_40 : decode cX11_unitsBy 40 = .ok (.if_icmp .ne 13, 3) := by decide +kernel
theorem dX11_unitsBy_43 : decode cX11_unitsBy 43 = .ok (.aload_n 0, 1) := by decide +kernel
theorem dX11_unitsBy_44 : decode cX11_unitsBy 44 = .ok (.iload 4, 2) := by decide +kernel
theorem dX11_unitsBy_46 : decode cX11_unitsBy 46 = .ok (.iconst 3, 1) := by decide +kernel
theorem dX11_unitsBy_47 : decode cX11_unitsBy 47 = .ok (.invokevirtual 33, 3) := by decide +kernel
theorem dX11_unitsBy_50 : decode cX11_unitsBy 50 = .ok (.goto 4, 3) := by decide +kernel
theorem dX11_unitsBy_53 : decode cX11_unitsBy 53 = .ok (.iconst 0, 1) := by decide +kernel
theorem dX11_unitsBy_54 : decode cX11_unitsBy 54 = .ok (.iadd, 1) := by decide +kernel
theorem dX11_unitsBy_55 : decode cX11_unitsBy 55 = .ok (.istore_n 3, 1) := by decide +kernel
theorem dX11_unitsBy_56 : decode cX11_unitsBy 56 = .ok (.iinc 4 1, 3) := by decide +kernel
theorem dX11_unitsBy_59 : decode cX11_unitsBy 59 = .ok (.goto (-54), 3) := by decide +kernel
theorem dX11_unitsBy_62 : decode cX11_unitsBy 62 = .ok (.iload_n 3, 1) := by decide +kernel
theorem dX11_unitsBy_63 : decode cX11_unitsBy 63 = .ok (.ireturn, 1) := by decide +kernel
theorem dX11_greatest_0 : decode cX11_greatest 0 = .ok (.iconst 0, 1) := by decide +kernel
theorem dX11_greatest_1 : decode cX11_greatest 1 = .ok (.istore_n 1, 1) := by decide +kernel
theorem dX11_greatest_2 : decode cX11_greatest 2 = .ok (.bipush 99, 2) := by decide +kernel
theorem dX11_greatest_4 : decode cX11_greatest 4 = .ok (.istore_n 2, 1) := by decide +kernel
theorem dX11_greatest_5 : decode cX11_greatest 5 = .ok (.iconst 1, 1) := by decide +kernel
theorem dX11_greatest_6 : decode cX11_greatest 6 = .ok (.istore_n 3, 1) := by decide +kernel
theorem dX11_greatest_7 : decode cX11_greatest 7 = .ok (.aload_n 0, 1) := by decide +kernel
theorem dX11_greatest_8 : decode cX11_greatest 8 = .ok (.iconst 0, 1) := by decide +kernel
theorem dX11_greatest_9 : decode cX11_greatest 9 = .ok (.iload_n 2, 1) := by decide +kernel
theorem dX11_greatest_10 : decode cX11_greatest 10 = .ok (.invokevirtual 142, 3) := by decide +kernel
theorem dX11_greatest_13 : decode cX11_greatest 13 = .ok (.istore 4, 2) := by decide +kernel
theorem dX11_greatest_15 : decode cX11_greatest 15 = .ok (.aload_n 0, 1) := by decide +kernel
theorem dX11_greatest_16 : decode cX11_greatest 16 = .ok (.iconst 1, 1) := by decide +kernel
theorem dX11_greatest_17 : decode cX11_greatest 17 = .ok (.iload_n 3, 1) := by decide +kernel
theorem dX11_greatest_18 : decode cX11_greatest 18 = .ok (.invokevirtual 142, 3) := by decide +kernel
theorem dX11_greatest_21 : decode cX11_greatest 21 = .ok (.istore 5, 2) := by decide +kernel
theorem dX11_greatest_23 : decode cX11_greatest 23 = .ok (.iload_n 2, 1) := by decide +kernel
theorem dX11_greatest_24 : decode cX11_greatest 24 = .ok (.iload_n 3, 1) := by decide +kernel
theorem dX11_greatest_25 : decode cX11_greatest 25 = .ok (.if_icmp .le 83, 3) := by decide +kernel
theorem dX11_greatest_28 : decode cX11_greatest 28 = .ok (.iload 4, 2) := by decide +kernel
theorem dX11_greatest_30 : decode cX11_greatest 30 = .ok (.ifCond .ne 17, 3) := by decide +kernel
theorem dX11_greatest_33 : decode cX11_greatest 33 = .ok (.iinc 2 (-1), 3) := by decide +kernel
theorem dX11_greatest_36 : decode cX11_greatest 36 = .ok (.aload_n 0, 1) := by decide +kernel
theorem dX11_greatest_37 : decode cX11_greatest 37 = .ok (.iconst 0, 1) := by decide +kernel
theorem dX11_greatest_38 : decode cX11_greatest 38 = .ok (.iload_n 2, 1) := by decide +kernel
theorem dX11_greatest_39 : decode cX11_greatest 39 = .ok (.invokevirtual 142, 3) := by decide +kernel
theorem dX11_greatest_42 : decode cX11_greatest 42 = .ok (.istore 4, 2) := by decide +kernel
theorem dX11_greatest_44 : decode cX11_greatest 44 = .ok (.goto (-21), 3) := by decide +kernel
theorem dX11_greatest_47 : decode cX11_greatest 47 = .ok (.iload 5, 2) := by decide +kernel
theorem dX11_greatest_49 : decode cX11_greatest 49 = .ok (.ifCond .ne 17, 3) := by decide +kernel
theorem dX11_greatest_52 : decode cX11_greatest 52 = .ok (.iinc 3 1, 3) := by decide +kernel
theorem dX11_greatest_55 : decode cX11_greatest 55 = .ok (.aload_n 0, 1) := by decide +kernel
theorem dX11_greatest_56 : decode cX11_greatest 56 = .ok (.iconst 1, 1) := by decide +kernel
theorem dX11_greatest_57 : decode cX11_greatest 57 = .ok (.iload_n 3, 1) := by decide +kernel
theorem dX11_greatest_58 : decode cX11_greatest 58 = .ok (.invokevirtual 142, 3) := by decide +kernel
theorem dX11_greatest_61 : decode cX11_greatest 61 = .ok (.istore 5, 2) := by decide +kernel
theorem dX11_greatest_63 : decode cX11_greatest 63 = .ok (.goto (-40), 3) := by decide +kernel
theorem dX11_greatest_66 : decode cX11_greatest 66 = .ok (.iload 4, 2) := by decide +kernel
theorem dX11_greatest_68 : decode cX11_greatest 68 = .ok (.iload 5, 2) := by decide +kernel
theorem dX11_greatest_70 : decode cX11_greatest 70 = .ok (.if_icmp .ge 8, 3) := by decide +kernel
theorem dX11_greatest_73 : decode cX11_greatest 73 = .ok (.iload 4, 2) := by decide +kernel
theorem dX11_greatest_75 : decode cX11_greatest 75 = .ok (.goto 5, 3) := by decide +kernel
theorem dX11_greatest_78 : decode cX11_greatest 78 = .ok (.iload 5, 2) := by decide +kernel
theorem dX11_greatest_80 : decode cX11_greatest 80 = .ok (.istore 6, 2) := by decide +kernel
theorem dX11_greatest_82 : decode cX11_greatest 82 = .ok (.iload_n 1, 1) := by decide +kernel
theorem dX11_greatest_83 : decode cX11_greatest 83 = .ok (.iload 6, 2) := by decide +kernel
theorem dX11_greatest_85 : decode cX11_greatest 85 = .ok (.iload_n 2, 1) := by decide +kernel
theorem dX11_greatest_86 : decode cX11_greatest 86 = .ok (.iload_n 3, 1) := by decide +kernel
theorem dX11_greatest_87 : decode cX11_greatest 87 = .ok (.isub, 1) := by decide +kernel
theorem dX11_greatest_88 : decode cX11_greatest 88 = .ok (.imul, 1) := by decide +kernel
theorem dX11_greatest_89 : decode cX11_greatest 89 = .ok (.iadd, 1) := by decide +kernel
theorem dX11_greatest_90 : decode cX11_greatest 90 = .ok (.istore_n 1, 1) := by decide +kernel
theorem dX11_greatest_91 : decode cX11_greatest 91 = .ok (.iload 4, 2) := by decide +kernel
theorem dX11_greatest_93 : decode cX11_greatest 93 = .ok (.iload 6, 2) := by decide +kernel
theorem dX11_greatest_95 : decode cX11_greatest 95 = .ok (.isub, 1) := by decide +kernel
theorem dX11_greatest_96 : decode cX11_greatest 96 = .ok (.istore 4, 2) := by decide +kernel
theorem dX11_greatest_98 : decode cX11_greatest 98 = .ok (.iload 5, 2) := by decide +kernel
theorem dX11_greatest_100 : decode cX11_greatest 100 = .ok (.iload 6, 2) := by decide +kernel
theorem dX11_greatest_102 : decode cX11_greatest 102 = .ok (.isub, 1) := by decide +kernel
theorem dX11_greatest_103 : decode cX11_greatest 103 = .ok (.istore 5, 2) := by decide +kernel
theorem dX11_greatest_105 : decode cX11_greatest 105 = .ok (.goto (-82), 3) := by decide +kernel
theorem dX11_greatest_108 : decode cX11_greatest 108 = .ok (.iload_n 1, 1) := by decide +kernel
theorem dX11_greatest_109 : decode cX11_greatest 109 = .ok (.ireturn, 1) := by decide +kernel
theorem dX11_orderAt_0 : decode cX11_orderAt 0 = .ok (.iconst 0, 1) := by decide +kernel
theorem dX11_orderAt_1 : decode cX11_orderAt 1 = .ok (.istore_n 3, 1) := by decide +kernel
theorem dX11_orderAt_2 : decode cX11_orderAt 2 = .ok (.iload_n 3, 1) := by decide +kernel
theorem dX11_orderAt_3 : decode cX11_orderAt 3 = .ok (.aload_n 0, 1) := by decide +kernel
theorem dX11_orderAt_4 : decode cX11_orderAt 4 = .ok (.getfield 7, 3) := by decide +kernel
theorem dX11_orderAt_7 : decode cX11_orderAt 7 = .ok (.iconst 1, 1) := by decide +kernel
theorem dX11_orderAt_8 : decode cX11_orderAt 8 = .ok (.iaload, 1) := by decide +kernel
theorem dX11_orderAt_9 : decode cX11_orderAt 9 = .ok (.if_icmp .ge 29, 3) := by decide +kernel
theorem dX11_orderAt_12 : decode cX11_orderAt 12 = .ok (.aload_n 0, 1) := by decide +kernel
theorem dX11_orderAt_13 : decode cX11_orderAt 13 = .ok (.iload_n 3, 1) := by decide +kernel
theorem dX11_orderAt_14 : decode cX11_orderAt 14 = .ok (.invokevirtual 105, 3) := by decide +kernel
theorem dX11_orderAt_17 : decode cX11_orderAt 17 = .ok (.iload_n 1, 1) := by decide +kernel
theorem dX11_orderAt_18 : decode cX11_orderAt 18 = .ok (.if_icmp .ne 14, 3) := by decide +kernel
theorem dX11_orderAt_21 : decode cX11_orderAt 21 = .ok (.aload_n 0, 1) := by decide +kernel
theorem dX11_orderAt_22 : decode cX11_orderAt 22 = .ok (.iload_n 3, 1) := by decide +kernel
theorem dX11_orderAt_23 : decode cX11_orderAt 23 = .ok (.invokevirtual 145, 3) := by decide +kernel
theorem dX11_orderAt_26 : decode cX11_orderAt 26 = .ok (.iload_n 2, 1) := by decide +kernel
theorem dX11_orderAt_27 : decode cX11_orderAt 27 = .ok (.if_icmp .ne 5, 3) := by decide +kernel
theorem dX11_orderAt_30 : decode cX11_orderAt 30 = .ok (.iload_n 3, 1) := by decide +kernel
theorem dX11_orderAt_31 : decode cX11_orderAt 31 = .ok (.ireturn, 1) := by decide +kernel
theorem dX11_orderAt_32 : decode cX11_orderAt 32 = .ok (.iinc 3 1, 3) := by decide +kernel
theorem dX11_orderAt_35 : decode cX11_orderAt 35 = .ok (.goto (-33), 3) := by decide +kernel
theorem dX11_orderAt_38 : decode cX11_orderAt 38 = .ok (.iconst 0, 1) := by decide +kernel
theorem dX11_orderAt_39 : decode cX11_orderAt 39 = .ok (.ireturn, 1) := by decide +kernel
theorem dX11_adds_0 : decode cX11_adds 0 = .ok (.sipush 167, 3) := by decide +kernel
theorem dX11_adds_3 : decode cX11_adds 3 = .ok (.iconst 5, 1) := by decide +kernel
theorem dX11_adds_4 : decode cX11_adds 4 = .ok (.aload_n 0, 1) := by decide +kernel
theorem dX11_adds_5 : decode cX11_adds 5 = .ok (.getfield 7, 3) := by decide +kernel
theorem dX11_adds_8 : decode cX11_adds 8 = .ok (.bipush 9, 2) := by decide +kernel
theorem dX11_adds_10 : decode cX11_adds 10 = .ok (.iaload, 1) := by decide +kernel
theorem dX11_adds_11 : decode cX11_adds 11 = .ok (.imul, 1) := by decide +kernel
theorem dX11_adds_12 : decode cX11_adds 12 = .ok (.iadd, 1) := by decide +kernel
theorem dX11_adds_13 : decode cX11_adds 13 = .ok (.istore 4, 2) := by decide +kernel
theorem dX11_adds_15 : decode cX11_adds 15 = .ok (.aload_n 0, 1) := by decide +kernel
theorem dX11_adds_16 : decode cX11_adds 16 = .ok (.getfield 7, 3) := by decide +kernel
theorem dX11_adds_19 : decode cX11_adds 19 = .ok (.iload 4, 2) := by decide +kernel
theorem dX11_adds_21 : decode cX11_adds 21 = .ok (.aload_n 0, 1) := by decide +kernel
theorem dX11_adds_22 : decode cX11_adds 22 = .ok (.iload_n 1, 1) := by decide +kernel
theorem dX11_adds_23 : decode cX11_adds 23 = .ok (.iconst 0, 1) := by decide +kernel
theorem dX11_adds_24 : decode cX11_adds 24 = .ok (.invokevirtual 33, 3) := by decide +kernel
theorem dX11_adds_27 : decode cX11_adds 27 = .ok (.iastore, 1) := by decide +kernel
theorem dX11_adds_28 : decode cX11_adds 28 = .ok (.aload_n 0, 1) := by decide +kernel
theorem dX11_adds_29 : decode cX11_adds 29 = .ok (.getfield 7, 3) := by decide +kernel
theorem dX11_adds_32 : decode cX11_adds 32 = .ok (.iload 4, 2) := by decide +kernel
theorem dX11_adds_34 : decode cX11_adds 34 = .ok (.iconst 1, 1) := by decide +kernel
theorem dX11_adds_35 : decode cX11_adds 35 = .ok (.iadd, 1) := by decide +kernel
theorem dX11_adds_36 : decode cX11_adds 36 = .ok (.aload_n 0, 1) := by decide +kernel
theorem dX11_adds_37 : decode cX11_adds 37 = .ok (.iload_n 2, 1) := by decide +kernel
theorem dX11_adds_38 : decode cX11_adds 38 = .ok (.iconst 0, 1) := by decide +kernel
theorem dX11_adds_39 : decode cX11_adds 39 = .ok (.invokevirtual 33, 3) := by decide +kernel
theorem dX11_adds_42 : decode cX11_adds 42 = .ok (.iastore, 1) := by decide +kernel
theorem dX11_adds_43 : decode cX11_adds 43 = .ok (.aload_n 0, 1) := by decide +kernel
theorem dX11_adds_44 : decode cX11_adds 44 = .ok (.getfield 7, 3) := by decide +kernel
theorem dX11_adds_47 : decode cX11_adds 47 = .ok (.iload 4, 2) := by decide +kernel
theorem dX11_adds_49 : decode cX11_adds 49 = .ok (.iconst 2, 1) := by decide +kernel
theorem dX11_adds_50 : decode cX11_adds 50 = .ok (.iadd, 1) := by decide +kernel
theorem dX11_adds_51 : decode cX11_adds 51 = .ok (.iload_n 3, 1) := by decide +kernel
theorem dX11_adds_52 : decode cX11_adds 52 = .ok (.iastore, 1) := by decide +kernel
theorem dX11_adds_53 : decode cX11_adds 53 = .ok (.aload_n 0, 1) := by decide +kernel
theorem dX11_adds_54 : decode cX11_adds 54 = .ok (.getfield 7, 3) := by decide +kernel
theorem dX11_adds_57 : decode cX11_adds 57 = .ok (.iload 4, 2) := by decide +kernel
theorem dX11_adds_59 : decode cX11_adds 59 = .ok (.iconst 3, 1) := by decide +kernel
theorem dX11_adds_60 : decode cX11_adds 60 = .ok (.iadd, 1) := by decide +kernel
theorem dX11_adds_61 : decode cX11_adds 61 = .ok (.aload_n 0, 1) := by decide +kernel
theorem dX11_adds_62 : decode cX11_adds 62 = .ok (.iload_n 1, 1) := by decide +kernel
theorem dX11_adds_63 : decode cX11_adds 63 = .ok (.iconst 1, 1) := by decide +kernel
theorem dX11_adds_64 : decode cX11_adds 64 = .ok (.invokevirtual 33, 3) := by decide +kernel
theorem dX11_adds_67 : decode cX11_adds 67 = .ok (.iastore, 1) := by decide +kernel
theorem dX11_adds_68 : decode cX11_adds 68 = .ok (.aload_n 0, 1) := by decide +kernel
theorem dX11_adds_69 : decode cX11_adds 69 = .ok (.getfield 7, 3) := by decide +kernel
theorem dX11_adds_72 : decode cX11_adds 72 = .ok (.iload 4, 2) := by decide +kernel
theorem dX11_adds_74 : decode cX11_adds 74 = .ok (.iconst 4, 1) := by decide +kernel
theorem dX11_adds_75 : decode cX11_adds 75 = .ok (.iadd, 1) := by decide +kernel
theorem dX11_adds_76 : decode cX11_adds 76 = .ok (.aload_n 0, 1) := by decide +kernel
theorem dX11_adds_77 : decode cX11_adds 77 = .ok (.iload_n 2, 1) := by decide +kernel
theorem dX11_adds_78 : decode cX11_adds 78 = .ok (.iconst 1, 1) := by decide +kernel
theorem dX11_adds_79 : decode cX11_adds 79 = .ok (.invokevirtual 33, 3) := by decide +kernel
theorem dX11_adds_82 : decode cX11_adds 82 = .ok (.iastore, 1) := by decide +kernel
theorem dX11_adds_83 : decode cX11_adds 83 = .ok (.aload_n 0, 1) := by decide +kernel
theorem dX11_adds_84 : decode cX11_adds 84 = .ok (.getfield 7, 3) := by decide +kernel
theorem dX11_adds_87 : decode cX11_adds 87 = .ok (.bipush 9, 2) := by decide +kernel
theorem dX11_adds_89 : decode cX11_adds 89 = .ok (.dup2, 1) := by decide +kernel
theorem dX11_adds_90 : decode cX11_adds 90 = .ok (.iaload, 1) := by decide +kernel
theorem dX11_adds_91 : decode cX11_adds 91 = .ok (.iconst 1, 1) := by decide +kernel
theorem dX11_adds_92 : decode cX11_adds 92 = .ok (.iadd, 1) := by decide +kernel
theorem dX11_adds_93 : decode cX11_adds 93 = .ok (.iastore, 1) := by decide +kernel
theorem dX11_adds_94 : decode cX11_adds 94 = .ok (.return_, 1) := by decide +kernel
theorem dX11_trades_0 : decode cX11_trades 0 = .ok (.aload_n 0, 1) := by decide +kernel
theorem dX11_trades_1 : decode cX11_trades 1 = .ok (.getfield 7, 3) := by decide +kernel
theorem dX11_trades_4 : decode cX11_trades 4 = .ok (.bipush 9, 2) := by decide +kernel
theorem dX11_trades_6 : decode cX11_trades 6 = .ok (.iconst 0, 1) := by decide +kernel
theorem dX11_trades_7 : decode cX11_trades 7 = .ok (.iastore, 1) := by decide +kernel
theorem dX11_trades_8 : decode cX11_trades 8 = .ok (.aload_n 0, 1) := by decide +kernel
theorem dX11_trades_9 : decode cX11_trades 9 = .ok (.getfield 115, 3) := by decide +kernel
theorem dX11_trades_12 : decode cX11_trades 12 = .ok (.istore_n 1, 1) := by decide +kernel
theorem dX11_trades_13 : decode cX11_trades 13 = .ok (.iconst 0, 1) := by decide +kernel
theorem dX11_trades_14 : decode cX11_trades 14 = .ok (.istore_n 2, 1) := by decide +kernel
theorem dX11_trades_15 : decode cX11_trades 15 = .ok (.iconst 0, 1) := by decide +kernel
theorem dX11_trades_16 : decode cX11_trades 16 = .ok (.istore_n 3, 1) := by decide +kernel
theorem dX11_trades_17 : decode cX11_trades 17 = .ok (.iconst 0, 1) := by decide +kernel
theorem dX11_trades_18 : decode cX11_trades 18 = .ok (.istore 4, 2) := by decide +kernel
theorem dX11_trades_20 : decode cX11_trades 20 = .ok (.iconst 0, 1) := by decide +kernel
theorem dX11_trades_21 : decode cX11_trades 21 = .ok (.istore 5, 2) := by decide +kernel
theorem dX11_trades_23 : decode cX11_trades 23 = .ok (.iload_n 1, 1) := by decide +kernel
theorem dX11_trades_24 : decode cX11_trades 24 = .ok (.ifCond .le 141, 3) := by decide +kernel
theorem dX11_trades_27 : decode cX11_trades 27 = .ok (.aload_n 0, 1) := by decide +kernel
theorem dX11_trades_28 : decode cX11_trades 28 = .ok (.iconst 0, 1) := by decide +kernel
theorem dX11_trades_29 : decode cX11_trades 29 = .ok (.iload_n 2, 1) := by decide +kernel
theorem dX11_trades_30 : decode cX11_trades 30 = .ok (.invokevirtual 148, 3) := by decide +kernel
theorem dX11_trades_33 : decode cX11_trades 33 = .ok (.istore 6, 2) := by decide +kernel
theorem dX11_trades_35 : decode cX11_trades 35 = .ok (.aload_n 0, 1) := by decide +kernel
theorem dX11_trades_36 : decode cX11_trades 36 = .ok (.iconst 1, 1) := by decide +kernel
theorem dX11_trades_37 : decode cX11_trades 37 = .ok (.iload_n 3, 1) := by decide +kernel
theorem dX11_trades_38 : decode cX11_trades 38 = .ok (.invokevirtual 148, 3) := by decide +kernel
theorem dX11_trades_41 : decode cX11_trades 41 = .ok (.istore 7, 2) := by decide +kernel
theorem dX11_trades_43 : decode cX11_trades 43 = .ok (.aload_n 0, 1) := by decide +kernel
theorem dX11_trades_44 : decode cX11_trades 44 = .ok (.iload 6, 2) := by decide +kernel
theorem dX11_trades_46 : decode cX11_trades 46 = .ok (.invokevirtual 133, 3) := by decide +kernel
theorem dX11_trades_49 : decode cX11_trades 49 = .ok (.iload 4, 2) := by decide +kernel
theorem dX11_trades_51 : decode cX11_trades 51 = .ok (.isub, 1) := by decide +kernel
theorem dX11_trades_52 : decode cX11_trades 52 = .ok (.istore 8, 2) := by decide +kernel
theorem dX11_trades_54 : decode cX11_trades 54 = .ok (.aload_n 0, 1) := by decide +kernel
theorem dX11_trades_55 : decode cX11_trades 55 = .ok (.iload 7, 2) := by decide +kernel
theorem dX11_trades_57 : decode cX11_trades 57 = .ok (.invokevirtual 133, 3) := by decide +kernel
theorem dX11_trades_60 : decode cX11_trades 60 = .ok (.iload 5, 2) := by decide +kernel
theorem dX11_trades_62 : decode cX11_trades 62 = .ok (.isub, 1) := by decide +kernel
theorem dX11_trades_63 : decode cX11_trades 63 = .ok (.istore 9, 2) := by decide +kernel
theorem dX11_trades_65 : decode cX11_trades 65 = .ok (.iload 8, 2) := by decide +kernel
theorem dX11_trades_67 : decode cX11_trades 67 = .ok (.iload 9, 2) := by decide +kernel
theorem dX11_trades_69 : decode cX11_trades 69 = .ok (.if_icmp .ge 8, 3) := by decide +kernel
theorem dX11_trades_72 : decode cX11_trades 72 = .ok (.iload 8, 2) := by decide +kernel
theorem dX11_trades_74 : decode cX11_trades 74 = .ok (.goto 5, 3) := by decide +kernel
theorem dX11_trades_77 : decode cX11_trades 77 = .ok (.iload 9, 2) := by decide +kernel
theorem dX11_trades_79 : decode cX11_trades 79 = .ok (.istore 10, 2) := by decide +kernel
theorem dX11_trades_81 : decode cX11_trades 81 = .ok (.aload_n 0, 1) := by decide +kernel
theorem dX11_trades_82 : decode cX11_trades 82 = .ok (.iload 6, 2) := by decide +kernel
theorem dX11_trades_84 : decode cX11_trades 84 = .ok (.iload 7, 2) := by decide +kernel
theorem dX11_trades_86 : decode cX11_trades 86 = .ok (.iload 10, 2) := by decide +kernel
theorem dX11_trades_88 : decode cX11_trades 88 = .ok (.invokevirtual 151, 3) := by decide +kernel
theorem dX11_trades_91 : decode cX11_trades 91 = .ok (.iload_n 1, 1) := by decide +kernel
theorem dX11_trades_92 : decode cX11_trades 92 = .ok (.iload 10, 2) := by decide +kernel
theorem dX11_trades_94 : decode cX11_trades 94 = .ok (.isub, 1) := by decide +kernel
theorem dX11_trades_95 : decode cX11_trades 95 = .ok (.istore_n 1, 1) := by decide +kernel
theorem dX11_trades_96 : decode cX11_trades 96 = .ok (.iload 10, 2) := by decide +kernel
theorem dX11_trades_98 : decode cX11_trades 98 = .ok (.iload 8, 2) := by decide +kernel
theorem dX11_trades_100 : decode cX11_trades 100 = .ok (.if_icmp .ne 7, 3) := by decide +kernel
theorem dX11_trades_103 : decode cX11_trades 103 = .ok (.iconst 0, 1) := by decide +kernel
theorem dX11_trades_104 : decode cX11_trades 104 = .ok (.goto 8, 3) := by decide +kernel
theorem dX11_trades_107 : decode cX11_trades 107 = .ok (.iload 4, 2) := by decide +kernel
theorem dX11_trades_109 : decode cX11_trades 109 = .ok (.iload 10, 2) := by decide +kernel
theorem dX11_trades_111 : decode cX11_trades 111 = .ok (.iadd, 1) := by decide +kernel
theorem dX11_trades_112 : decode cX11_trades 112 = .ok (.istore 4, 2) := by decide +kernel
theorem dX11_trades_114 : decode cX11_trades 114 = .ok (.iload_n 2, 1) := by decide +kernel
theorem dX11_trades_115 : decode cX11_trades 115 = .ok (.iload 10, 2) := by decide +kernel
theorem dX11_trades_117 : decode cX11_trades 117 = .ok (.iload 8, 2) := by decide +kernel
theorem dX11_trades_119 : decode cX11_trades 119 = .ok (.if_icmp .ne 7, 3) := by decide +kernel
theorem dX11_trades_122 : decode cX11_trades 122 = .ok (.iconst 1, 1) := by decide +kernel
theorem dX11_trades_123 : decode cX11_trades 123 = .ok (.goto 4, 3) := by decide +kernel
theorem dX11_trades_126 : decode cX11_trades 126 = .ok (.iconst 0, 1) := by decide +kernel
theorem dX11_trades_127 : decode cX11_trades 127 = .ok (.iadd, 1) := by decide +kernel
theorem dX11_trades_128 : decode cX11_trades 128 = .ok (.istore_n 2, 1) := by decide +kernel
theorem dX11_trades_129 : decode cX11_trades 129 = .ok (.iload 10, 2) := by decide +kernel
theorem dX11_trades_131 : decode cX11_trades 131 = .ok (.iload 9, 2) := by decide +kernel
theorem dX11_trades_133 : decode cX11_trades 133 = .ok (.if_icmp .ne 7, 3) := by decide +kernel
theorem dX11_trades_136 : decode cX11_trades 136 = .ok (.iconst 0, 1) := by decide +kernel
theorem dX11_trades_137 : decode cX11_trades 137 = .ok (.goto 8, 3) := by decide +kernel
theorem dX11_trades_140 : decode cX11_trades 140 = .ok (.iload 5, 2) := by decide +kernel
theorem dX11_trades_142 : decode cX11_trades 142 = .ok (.iload 10, 2) := by decide +kernel
theorem dX11_trades_144 : decode cX11_trades 144 = .ok (.iadd, 1) := by decide +kernel
theorem dX11_trades_145 : decode cX11_trades 145 = .ok (.istore 5, 2) := by decide +kernel
theorem dX11_trades_147 : decode cX11_trades 147 = .ok (.iload_n 3, 1) := by decide +kernel
theorem dX11_trades_148 : decode cX11_trades 148 = .ok (.iload 10, 2) := by decide +kernel
theorem dX11_trades_150 : decode cX11_trades 150 = .ok (.iload 9, 2) := by decide +kernel
theorem dX11_trades_152 : decode cX11_trades 152 = .ok (.if_icmp .ne 7, 3) := by decide +kernel
theorem dX11_trades_155 : decode cX11_trades 155 = .ok (.iconst 1, 1) := by decide +kernel
theorem dX11_trades_156 : decode cX11_trades 156 = .ok (.goto 4, 3) := by decide +kernel
theorem dX11_trades_159 : decode cX11_trades 159 = .ok (.iconst 0, 1) := by decide +kernel
theorem dX11_trades_160 : decode cX11_trades 160 = .ok (.iadd, 1) := by decide +kernel
theorem dX11_trades_161 : decode cX11_trades 161 = .ok (.istore_n 3, 1) := by decide +kernel
theorem dX11_trades_162 : decode cX11_trades 162 = .ok (.goto (-139), 3) := by decide +kernel
theorem dX11_trades_165 : decode cX11_trades 165 = .ok (.return_, 1) := by decide +kernel
theorem dX11_outcome_0 : decode cX11_outcome 0 = .ok (.iconst 0, 1) := by decide +kernel
theorem dX11_outcome_1 : decode cX11_outcome 1 = .ok (.istore_n 2, 1) := by decide +kernel
theorem dX11_outcome_2 : decode cX11_outcome 2 = .ok (.iconst 0, 1) := by decide +kernel
theorem dX11_outcome_3 : decode cX11_outcome 3 = .ok (.istore_n 3, 1) := by decide +kernel
theorem dX11_outcome_4 : decode cX11_outcome 4 = .ok (.iconst 0, 1) := by decide +kernel
theorem dX11_outcome_5 : decode cX11_outcome 5 = .ok (.istore 4, 2) := by decide +kernel
theorem dX11_outcome_7 : decode cX11_outcome 7 = .ok (.iconst 0, 1) := by decide +kernel
theorem dX11_outcome_8 : decode cX11_outcome 8 = .ok (.istore 5, 2) := by decide +kernel
theorem dX11_outcome_10 : decode cX11_outcome 10 = .ok (.iload 5, 2) := by decide +kernel
theorem dX11_outcome_12 : decode cX11_outcome 12 = .ok (.aload_n 0, 1) := by decide +kernel
theorem dX11_outcome_13 : decode cX11_outcome 13 = .ok (.getfield 7, 3) := by decide +kernel
theorem dX11_outcome_16 : decode cX11_outcome 16 = .ok (.iconst 1, 1) := by decide +kernel
theorem dX11_outcome_17 : decode cX11_outcome 17 = .ok (.iaload, 1) := by decide +kernel
theorem dX11_outcome_18 : decode cX11_outcome 18 = .ok (.if_icmp .ge 66, 3) := by decide +kernel
theorem dX11_outcome_21 : decode cX11_outcome 21 = .ok (.aload_n 0, 1) := by decide +kernel
theorem dX11_outcome_22 : decode cX11_outcome 22 = .ok (.iload 5, 2) := by decide +kernel
theorem dX11_outcome_24 : decode cX11_outcome 24 = .ok (.iconst 1, 1) := by decide +kernel
theorem dX11_outcome_25 : decode cX11_outcome 25 = .ok (.invokevirtual 33, 3) := by decide +kernel
theorem dX11_outcome_28 : decode cX11_outcome 28 = .ok (.iload_n 1, 1) := by decide +kernel
theorem dX11_outcome_29 : decode cX11_outcome 29 = .ok (.if_icmp .ne 49, 3) := by decide +kernel
theorem dX11_outcome_32 : decode cX11_outcome 32 = .ok (.iinc 2 1, 3) := by decide +kernel
theorem dX11_outcome_35 : decode cX11_outcome 35 = .ok (.iload_n 3, 1) := by decide +kernel
theorem dX11_outcome_36 : decode cX11_outcome 36 = .ok (.aload_n 0, 1) := by decide +kernel
theorem dX11_outcome_37 : decode cX11_outcome 37 = .ok (.iload 5, 2) := by decide +kernel
theorem dX11_outcome_39 : decode cX11_outcome 39 = .ok (.invokevirtual 133, 3) := by decide +kernel
theorem dX11_outcome_42 : decode cX11_outcome 42 = .ok (.aload_n 0, 1) := by decide +kernel
theorem dX11_outcome_43 : decode cX11_outcome 43 = .ok (.iload 5, 2) := by decide +kernel
theorem dX11_outcome_45 : decode cX11_outcome 45 = .ok (.iconst 3, 1) := by decide +kernel
theorem dX11_outcome_46 : decode cX11_outcome 46 = .ok (.invokevirtual 33, 3) := by decide +kernel
theorem dX11_outcome_49 : decode cX11_outcome 49 = .ok (.if_icmp .ne 7, 3) := by decide +kernel
theorem dX11_outcome_52 : decode cX11_outcome 52 = .ok (.iconst 1, 1) := by decide +kernel
theorem dX11_outcome_53 : decode cX11_outcome 53 = .ok (.goto 4, 3) := by decide +kernel
theorem dX11_outcome_56 : decode cX11_outcome 56 = .ok (.iconst 0, 1) := by decide +kernel
theorem dX11_outcome_57 : decode cX11_outcome 57 = .ok (.iadd, 1) := by decide +kernel
theorem dX11_outcome_58 : decode cX11_outcome 58 = .ok (.istore_n 3, 1) := by decide +kernel
theorem dX11_outcome_59 : decode cX11_outcome 59 = .ok (.iload 4, 2) := by decide +kernel
theorem dX11_outcome_61 : decode cX11_outcome 61 = .ok (.aload_n 0, 1) := by decide +kernel
theorem dX11_outcome_62 : decode cX11_outcome 62 = .ok (.iload 5, 2) := by decide +kernel
theorem dX11_outcome_64 : decode cX11_outcome 64 = .ok (.invokevirtual 133, 3) := by decide +kernel
theorem dX11_outcome_67 : decode cX11_outcome 67 = .ok (.ifCond .ne 7, 3) := by decide +kernel
theorem dX11_outcome_70 : decode cX11_outcome 70 = .ok (.iconst 1, 1) := by decide +kernel
theorem dX11_outcome_71 : decode cX11_outcome 71 = .ok (.goto 4, 3) := by decide +kernel
theorem dX11_outcome_74 : decode cX11_outcome 74 = .ok (.iconst 0, 1) := by decide +kernel
theorem dX11_outcome_75 : decode cX11_outcome 75 = .ok (.iadd, 1) := by decide +kernel
theorem dX11_outcome_76 : decode cX11_outcome 76 = .ok (.istore 4, 2) := by decide +kernel
theorem dX11_outcome_78 : decode cX11_outcome 78 = .ok (.iinc 5 1, 3) := by decide +kernel
theorem dX11_outcome_81 : decode cX11_outcome 81 = .ok (.goto (-71), 3) := by decide +kernel
theorem dX11_outcome_84 : decode cX11_outcome 84 = .ok (.iload_n 2, 1) := by decide +kernel
theorem dX11_outcome_85 : decode cX11_outcome 85 = .ok (.ifCond .ne 7, 3) := by decide +kernel
theorem dX11_outcome_88 : decode cX11_outcome 88 = .ok (.iconst 0, 1) := by decide +kernel
theorem dX11_outcome_89 : decode cX11_outcome 89 = .ok (.goto 23, 3) := by decide +kernel
theorem dX11_outcome_92 : decode cX11_outcome 92 = .ok (.iload_n 3, 1) := by decide +kernel
theorem dX11_outcome_93 : decode cX11_outcome 93 = .ok (.iload_n 2, 1) := by decide +kernel
theorem dX11_outcome_94 : decode cX11_outcome 94 = .ok (.if_icmp .ne 7, 3) := by decide +kernel
theorem dX11_outcome_97 : decode cX11_outcome 97 = .ok (.iconst 1, 1) := by decide +kernel
theorem dX11_outcome_98 : decode cX11_outcome 98 = .ok (.goto 14, 3) := by decide +kernel
theorem dX11_outcome_101 : decode cX11_outcome 101 = .ok (.iload 4, 2) := by decide +kernel
theorem dX11_outcome_103 : decode cX11_outcome 103 = .ok (.iload_n 2, 1) := by decide +kernel
theorem dX11_outcome_104 : decode cX11_outcome 104 = .ok (.if_icmp .ne 7, 3) := by decide +kernel
theorem dX11_outcome_107 : decode cX11_outcome 107 = .ok (.iconst (-1), 1) := by decide +kernel
theorem dX11_outcome_108 : decode cX11_outcome 108 = .ok (.goto 4, 3) := by decide +kernel
theorem dX11_outcome_111 : decode cX11_outcome 111 = .ok (.iconst 0, 1) := by decide +kernel
theorem dX11_outcome_112 : decode cX11_outcome 112 = .ok (.ireturn, 1) := by decide +kernel
theorem dX11_learns_0 : decode cX11_learns 0 = .ok (.aload_n 0, 1) := by decide +kernel
theorem dX11_learns_1 : decode cX11_learns 1 = .ok (.iload_n 1, 1) := by decide +kernel
theorem dX11_learns_2 : decode cX11_learns 2 = .ok (.iconst 3, 1) := by decide +kernel
theorem dX11_learns_3 : decode cX11_learns 3 = .ok (.invokevirtual 64, 3) := by decide +kernel
theorem dX11_learns_6 : decode cX11_learns 6 = .ok (.aload_n 0, 1) := by decide +kernel
theorem dX11_learns_7 : decode cX11_learns 7 = .ok (.iload_n 1, 1) := by decide +kernel
theorem dX11_learns_8 : decode cX11_learns 8 = .ok (.invokevirtual 154, 3) := by decide +kernel
theorem dX11_learns_11 : decode cX11_learns 11 = .ok (.iadd, 1) := by decide +kernel
theorem dX11_learns_12 : decode cX11_learns 12 = .ok (.istore_n 2, 1) := by decide +kernel
theorem dX11_learns_13 : decode cX11_learns 13 = .ok (.aload_n 0, 1) := by decide +kernel
theorem dX11_learns_14 : decode cX11_learns 14 = .ok (.iload_n 1, 1) := by decide +kernel
theorem dX11_learns_15 : decode cX11_learns 15 = .ok (.iconst 2, 1) := by decide +kernel
theorem dX11_learns_16 : decode cX11_learns 16 = .ok (.invokevirtual 64, 3) := by decide +kernel
theorem dX11_learns_19 : decode cX11_learns 19 = .ok (.iconst 3, 1) := by decide +kernel
theorem dX11_learns_20 : decode cX11_learns 20 = .ok (.if_icmp .ne 20, 3) := by decide +kernel
theorem dX11_learns_23 : decode cX11_learns 23 = .ok (.iload_n 2, 1) := by decide +kernel
theorem dX11_learns_24 : decode cX11_learns 24 = .ok (.iconst 0, 1) := by decide +kernel
theorem dX11_learns_25 : decode cX11_learns 25 = .ok (.bipush 50, 2) := by decide +kernel
theorem dX11_learns_27 : decode cX11_learns 27 = .ok (.invokestatic 29, 3) := by decide +kernel
theorem dX11_learns_30 : decode cX11_learns 30 = .ok (.ifCond .eq 10, 3) := by decide +kernel
theorem dX11_learns_33 : decode cX11_learns 33 = .ok (.aload_n 0, 1) := by decide +kernel
theorem dX11_learns_34 : decode cX11_learns 34 = .ok (.iload_n 1, 1) := by decide +kernel
theorem dX11_learns_35 : decode cX11_learns 35 = .ok (.iconst 3, 1) := by decide +kernel
theorem dX11_learns_36 : decode cX11_learns 36 = .ok (.iload_n 2, 1) := by decide +kernel
theorem dX11_learns_37 : decode cX11_learns 37 = .ok (.invokevirtual 47, 3) := by decide +kernel
theorem dX11_learns_40 : decode cX11_learns 40 = .ok (.return_, 1) := by decide +kernel
theorem dX11_settles_0 : decode cX11_settles 0 = .ok (.iconst 0, 1) := by decide +kernel
theorem dX11_settles_1 : decode cX11_settles 1 = .ok (.istore_n 2, 1) := by decide +kernel
theorem dX11_settles_2 : decode cX11_settles 2 = .ok (.iconst 0, 1) := by decide +kernel
theorem dX11_settles_3 : decode cX11_settles 3 = .ok (.istore_n 3, 1) := by decide +kernel
theorem dX11_settles_4 : decode cX11_settles 4 = .ok (.iload_n 3, 1) := by decide +kernel
theorem dX11_settles_5 : decode cX11_settles 5 = .ok (.aload_n 0, 1) := by decide +kernel
theorem dX11_settles_6 : decode cX11_settles 6 = .ok (.getfield 7, 3) := by decide +kernel
theorem dX11_settles_9 : decode cX11_settles 9 = .ok (.iconst 1, 1) := by decide +kernel
theorem dX11_settles_10 : decode cX11_settles 10 = .ok (.iaload, 1) := by decide +kernel
theorem dX11_settles_11 : decode cX11_settles 11 = .ok (.if_icmp .ge 31, 3) := by decide +kernel
theorem dX11_settles_14 : decode cX11_settles 14 = .ok (.iload_n 2, 1) := by decide +kernel
theorem dX11_settles_15 : decode cX11_settles 15 = .ok (.aload_n 0, 1) := by decide +kernel
theorem dX11_settles_16 : decode cX11_settles 16 = .ok (.iload_n 3, 1) := by decide +kernel
theorem dX11_settles_17 : decode cX11_settles 17 = .ok (.iconst 1, 1) := by decide +kernel
theorem dX11_settles_18 : decode cX11_settles 18 = .ok (.invokevirtual 33, 3) := by decide +kernel
theorem dX11_settles_21 : decode cX11_settles 21 = .ok (.iload_n 1, 1) := by decide +kernel
theorem dX11_settles_22 : decode cX11_settles 22 = .ok (.if_icmp .ne 11, 3) := by decide +kernel
theorem dX11_settles_25 : decode cX11_settles 25 = .ok (.aload_n 0, 1) := by decide +kernel
theorem dX11_settles_26 : decode cX11_settles 26 = .ok (.iload_n 3, 1) := by decide +kernel
theorem dX11_settles_27 : decode cX11_settles 27 = .ok (.invokevirtual 133, 3) := by decide +kernel
theorem dX11_settles_30 : decode cX11_settles 30 = .ok (.goto 4, 3) := by decide +kernel
theorem dX11_settles_33 : decode cX11_settles 33 = .ok (.iconst 0, 1) := by decide +kernel
theorem dX11_settles_34 : decode cX11_settles 34 = .ok (.iadd, 1) := by decide +kernel
theorem dX11_settles_35 : decode cX11_settles 35 = .ok (.istore_n 2, 1) := by decide +kernel
theorem dX11_settles_36 : decode cX11_settles 36 = .ok (.iinc 3 1, 3) := by decide +kernel
theorem dX11_settles_39 : decode cX11_settles 39 = .ok (.goto (-35), 3) := by decide +kernel
theorem dX11_settles_42 : decode cX11_settles 42 = .ok (.iload_n 2, 1) := by decide +kernel
theorem dX11_settles_43 : decode cX11_settles 43 = .ok (.ifCond .ne 7, 3) := by decide +kernel
theorem dX11_settles_46 : decode cX11_settles 46 = .ok (.iconst 0, 1) := by decide +kernel
theorem dX11_settles_47 : decode cX11_settles 47 = .ok (.goto 9, 3) := by decide +kernel
theorem dX11_settles_50 : decode cX11_settles 50 = .ok (.iload_n 2, 1) := by decide +kernel
theorem dX11_settles_51 : decode cX11_settles 51 = .ok (.aload_n 0, 1) := by decide +kernel
theorem dX11_settles_52 : decode cX11_settles 52 = .ok (.getfield 127, 3) := by decide +kernel
theorem dX11_settles_55 : decode cX11_settles 55 = .ok (.imul, 1) := by decide +kernel
theorem dX11_settles_56 : decode cX11_settles 56 = .ok (.istore_n 3, 1) := by decide +kernel
theorem dX11_settles_57 : decode cX11_settles 57 = .ok (.aload_n 0, 1) := by decide +kernel
theorem dX11_settles_58 : decode cX11_settles 58 = .ok (.iload_n 1, 1) := by decide +kernel
theorem dX11_settles_59 : decode cX11_settles 59 = .ok (.iconst 5, 1) := by decide +kernel
theorem dX11_settles_60 : decode cX11_settles 60 = .ok (.aload_n 0, 1) := by decide +kernel
theorem dX11_settles_61 : decode cX11_settles 61 = .ok (.iload_n 1, 1) := by decide +kernel
theorem dX11_settles_62 : decode cX11_settles 62 = .ok (.iconst 5, 1) := by decide +kernel
theorem dX11_settles_63 : decode cX11_settles 63 = .ok (.invokevirtual 64, 3) := by decide +kernel
theorem dX11_settles_66 : decode cX11_settles 66 = .ok (.aload_n 0, 1) := by decide +kernel
theorem dX11_settles_67 : decode cX11_settles 67 = .ok (.iload_n 1, 1) := by decide +kernel
theorem dX11_settles_68 : decode cX11_settles 68 = .ok (.invokevirtual 139, 3) := by decide +kernel
theorem dX11_settles_71 : decode cX11_settles 71 = .ok (.iadd, 1) := by decide +kernel
theorem dX11_settles_72 : decode cX11_settles 72 = .ok (.invokevirtual 47, 3) := by decide +kernel
theorem dX11_settles_75 : decode cX11_settles 75 = .ok (.aload_n 0, 1) := by decide +kernel
theorem dX11_settles_76 : decode cX11_settles 76 = .ok (.iload_n 1, 1) := by decide +kernel
theorem dX11_settles_77 : decode cX11_settles 77 = .ok (.iconst 4, 1) := by decide +kernel
theorem dX11_settles_78 : decode cX11_settles 78 = .ok (.aload_n 0, 1) := by decide +kernel
theorem dX11_settles_79 : decode cX11_settles 79 = .ok (.iload_n 1, 1) := by decide +kernel
theorem dX11_settles_80 : decode cX11_settles 80 = .ok (.iconst 4, 1) := by decide +kernel
theorem dX11_settles_81 : decode cX11_settles 81 = .ok (.invokevirtual 64, 3) := by decide +kernel
theorem dX11_settles_84 : decode cX11_settles 84 = .ok (.iload_n 2, 1) := by decide +kernel
theorem dX11_settles_85 : decode cX11_settles 85 = .ok (.iadd, 1) := by decide +kernel
theorem dX11_settles_86 : decode cX11_settles 86 = .ok (.invokevirtual 47, 3) := by decide +kernel
theorem dX11_settles_89 : decode cX11_settles 89 = .ok (.aload_n 0, 1) := by decide +kernel
theorem dX11_settles_90 : decode cX11_settles 90 = .ok (.iload_n 1, 1) := by decide +kernel
theorem dX11_settles_91 : decode cX11_settles 91 = .ok (.bipush 6, 2) := by decide +kernel
theorem dX11_settles_93 : decode cX11_settles 93 = .ok (.aload_n 0, 1) := by decide +kernel
theorem dX11_settles_94 : decode cX11_settles 94 = .ok (.iload_n 1, 1) := by decide +kernel
theorem dX11_settles_95 : decode cX11_settles 95 = .ok (.bipush 6, 2) := by decide +kernel
theorem dX11_settles_97 : decode cX11_settles 97 = .ok (.invokevirtual 64, 3) := by decide +kernel
theorem dX11_settles_100 : decode cX11_settles 100 = .ok (.aload_n 0, 1) := by decide +kernel
theorem dX11_settles_101 : decode cX11_settles 101 = .ok (.iload_n 1, 1) := by decide +kernel
theorem dX11_settles_102 : decode cX11_settles 102 = .ok (.iconst 0, 1) := by decide +kernel
theorem dX11_settles_103 : decode cX11_settles 103 = .ok (.invokevirtual 64, 3) := by decide +kernel
theorem dX11_settles_106 : decode cX11_settles 106 = .ok (.ifCond .ne 8, 3) := by decide +kernel
theorem dX11_settles_109 : decode cX11_settles 109 = .ok (.iload_n 3, 1) := by decide +kernel
theorem dX11_settles_110 : decode cX11_settles 110 = .ok (.ineg, 1) := by decide +kernel
theorem dX11_settles_111 : decode cX11_settles 111 = .ok (.goto 4, 3) := by decide +kernel
theorem dX11_settles_114 : decode cX11_settles 114 = .ok (.iload_n 3, 1) := by decide +kernel
theorem dX11_settles_115 : decode cX11_settles 115 = .ok (.iadd, 1) := by decide +kernel
theorem dX11_settles_116 : decode cX11_settles 116 = .ok (.invokevirtual 47, 3) := by decide +kernel
theorem dX11_settles_119 : decode cX11_settles 119 = .ok (.return_, 1) := by decide +kernel
theorem dX11_empties_0 : decode cX11_empties 0 = .ok (.iconst 0, 1) := by decide +kernel
theorem dX11_empties_1 : decode cX11_empties 1 = .ok (.istore_n 1, 1) := by decide +kernel
theorem dX11_empties_2 : decode cX11_empties 2 = .ok (.iload_n 1, 1) := by decide +kernel
theorem dX11_empties_3 : decode cX11_empties 3 = .ok (.aload_n 0, 1) := by decide +kernel
theorem dX11_empties_4 : decode cX11_empties 4 = .ok (.getfield 7, 3) := by decide +kernel
theorem dX11_empties_7 : decode cX11_empties 7 = .ok (.iconst 1, 1) := by decide +kernel
theorem dX11_empties_8 : decode cX11_empties 8 = .ok (.iaload, 1) := by decide +kernel
theorem dX11_empties_9 : decode cX11_empties 9 = .ok (.if_icmp .ge 20, 3) := by decide +kernel
theorem dX11_empties_12 : decode cX11_empties 12 = .ok (.aload_n 0, 1) := by decide +kernel
theorem dX11_empties_13 : decode cX11_empties 13 = .ok (.getfield 22, 3) := by decide +kernel
theorem dX11_empties_16 : decode cX11_empties 16 = .ok (.iload_n 1, 1) := by decide +kernel
theorem dX11_empties_17 : decode cX11_empties 17 = .ok (.aload_n 0, 1) := by decide +kernel
theorem dX11_empties_18 : decode cX11_empties 18 = .ok (.iload_n 1, 1) := by decide +kernel
theorem dX11_empties_19 : decode cX11_empties 19 = .ok (.invokevirtual 133, 3) := by decide +kernel
theorem dX11_empties_22 : decode cX11_empties 22 = .ok (.iastore, 1) := by decide +kernel
theorem dX11_empties_23 : decode cX11_empties 23 = .ok (.iinc 1 1, 3) := by decide +kernel
theorem dX11_empties_26 : decode cX11_empties 26 = .ok (.goto (-24), 3) := by decide +kernel
theorem dX11_empties_29 : decode cX11_empties 29 = .ok (.aload_n 0, 1) := by decide +kernel
theorem dX11_empties_30 : decode cX11_empties 30 = .ok (.getfield 7, 3) := by decide +kernel
theorem dX11_empties_33 : decode cX11_empties 33 = .ok (.iconst 1, 1) := by decide +kernel
theorem dX11_empties_34 : decode cX11_empties 34 = .ok (.iaload, 1) := by decide +kernel
theorem dX11_empties_35 : decode cX11_empties 35 = .ok (.iconst 1, 1) := by decide +kernel
theorem dX11_empties_36 : decode cX11_empties 36 = .ok (.isub, 1) := by decide +kernel
theorem dX11_empties_37 : decode cX11_empties 37 = .ok (.istore_n 1, 1) := by decide +kernel
theorem dX11_empties_38 : decode cX11_empties 38 = .ok (.iload_n 1, 1) := by decide +kernel
theorem dX11_empties_39 : decode cX11_empties 39 = .ok (.ifCond .lt 42, 3) := by decide +kernel
theorem dX11_empties_42 : decode cX11_empties 42 = .ok (.aload_n 0, 1) := by decide +kernel
theorem dX11_empties_43 : decode cX11_empties 43 = .ok (.iload_n 1, 1) := by decide +kernel
theorem dX11_empties_44 : decode cX11_empties 44 = .ok (.iconst 3, 1) := by decide +kernel
theorem dX11_empties_45 : decode cX11_empties 45 = .ok (.aload_n 0, 1) := by decide +kernel
theorem dX11_empties_46 : decode cX11_empties 46 = .ok (.iload_n 1, 1) := by decide +kernel
theorem dX11_empties_47 : decode cX11_empties 47 = .ok (.iconst 3, 1) := by decide +kernel
theorem dX11_empties_48 : decode cX11_empties 48 = .ok (.invokevirtual 33, 3) := by decide +kernel
theorem dX11_empties_51 : decode cX11_empties 51 = .ok (.aload_n 0, 1) := by decide +kernel
theorem dX11_empties_52 : decode cX11_empties 52 = .ok (.getfield 22, 3) := by decide +kernel
theorem dX11_empties_55 : decode cX11_empties 55 = .ok (.iload_n 1, 1) := by decide +kernel
theorem dX11_empties_56 : decode cX11_empties 56 = .ok (.iaload, 1) := by decide +kernel
theorem dX11_empties_57 : decode cX11_empties 57 = .ok (.isub, 1) := by decide +kernel
theorem dX11_empties_58 : decode cX11_empties 58 = .ok (.invokevirtual 87, 3) := by decide +kernel
theorem dX11_empties_61 : decode cX11_empties 61 = .ok (.aload_n 0, 1) := by decide +kernel
theorem dX11_empties_62 : decode cX11_empties 62 = .ok (.iload_n 1, 1) := by decide +kernel
theorem dX11_empties_63 : decode cX11_empties 63 = .ok (.iconst 3, 1) := by decide +kernel
theorem dX11_empties_64 : decode cX11_empties 64 = .ok (.invokevirtual 33, 3) := by decide +kernel
theorem dX11_empties_67 : decode cX11_empties 67 = .ok (.ifCond .ne 8, 3) := by decide +kernel
theorem dX11_empties_70 : decode cX11_empties 70 = .ok (.aload_n 0, 1) := by decide +kernel
theorem dX11_empties_71 : decode cX11_empties 71 = .ok (.iload_n 1, 1) := by decide +kernel
theorem dX11_empties_72 : decode cX11_empties 72 = .ok (.invokevirtual 96, 3) := by decide +kernel
theorem dX11_empties_75 : decode cX11_empties 75 = .ok (.iinc 1 (-1), 3) := by decide +kernel
theorem dX11_empties_78 : decode cX11_empties 78 = .ok (.goto (-40), 3) := by decide +kernel
theorem dX11_empties_81 : decode cX11_empties 81 = .ok (.return_, 1) := by decide +kernel
theorem dX11_clears_0 : decode cX11_clears 0 = .ok (.aload_n 0, 1) := by decide +kernel
theorem dX11_clears_1 : decode cX11_clears 1 = .ok (.invokevirtual 157, 3) := by decide +kernel
theorem dX11_clears_4 : decode cX11_clears 4 = .ok (.aload_n 0, 1) := by decide +kernel
theorem dX11_clears_5 : decode cX11_clears 5 = .ok (.invokevirtual 160, 3) := by decide +kernel
theorem dX11_clears_8 : decode cX11_clears 8 = .ok (.aload_n 0, 1) := by decide +kernel
theorem dX11_clears_9 : decode cX11_clears 9 = .ok (.getfield 7, 3) := by decide +kernel
theorem dX11_clears_12 : decode cX11_clears 12 = .ok (.bipush 7, 2) := by decide +kernel
theorem dX11_clears_14 : decode cX11_clears 14 = .ok (.dup2, 1) := by decide +kernel
theorem dX11_clears_15 : decode cX11_clears 15 = .ok (.iaload, 1) := by decide +kernel
theorem dX11_clears_16 : decode cX11_clears 16 = .ok (.aload_n 0, 1) := by decide +kernel
theorem dX11_clears_17 : decode cX11_clears 17 = .ok (.invokevirtual 163, 3) := by decide +kernel
theorem dX11_clears_20 : decode cX11_clears 20 = .ok (.iadd, 1) := by decide +kernel
theorem dX11_clears_21 : decode cX11_clears 21 = .ok (.iastore, 1) := by decide +kernel
theorem dX11_clears_22 : decode cX11_clears 22 = .ok (.aload_n 0, 1) := by decide +kernel
theorem dX11_clears_23 : decode cX11_clears 23 = .ok (.getfield 7, 3) := by decide +kernel
theorem dX11_clears_26 : decode cX11_clears 26 = .ok (.bipush 6, 2) := by decide +kernel
theorem dX11_clears_28 : decode cX11_clears 28 = .ok (.dup2, 1) := by decide +kernel
theorem dX11_clears_29 : decode cX11_clears 29 = .ok (.iaload, 1) := by decide +kernel
theorem dX11_clears_30 : decode cX11_clears 30 = .ok (.aload_n 0, 1) := by decide +kernel
theorem dX11_clears_31 : decode cX11_clears 31 = .ok (.getfield 115, 3) := by decide +kernel
theorem dX11_clears_34 : decode cX11_clears 34 = .ok (.iadd, 1) := by decide +kernel
theorem dX11_clears_35 : decode cX11_clears 35 = .ok (.iastore, 1) := by decide +kernel
theorem dX11_clears_36 : decode cX11_clears 36 = .ok (.aload_n 0, 1) := by decide +kernel
theorem dX11_clears_37 : decode cX11_clears 37 = .ok (.getfield 7, 3) := by decide +kernel
theorem dX11_clears_40 : decode cX11_clears 40 = .ok (.bipush 8, 2) := by decide +kernel
theorem dX11_clears_42 : decode cX11_clears 42 = .ok (.aload_n 0, 1) := by decide +kernel
theorem dX11_clears_43 : decode cX11_clears 43 = .ok (.getfield 127, 3) := by decide +kernel
theorem dX11_clears_46 : decode cX11_clears 46 = .ok (.iastore, 1) := by decide +kernel
theorem dX11_clears_47 : decode cX11_clears 47 = .ok (.iconst 0, 1) := by decide +kernel
theorem dX11_clears_48 : decode cX11_clears 48 = .ok (.istore_n 1, 1) := by decide +kernel
theorem dX11_clears_49 : decode cX11_clears 49 = .ok (.iload_n 1, 1) := by decide +kernel
theorem dX11_clears_50 : decode cX11_clears 50 = .ok (.aload_n 0, 1) := by decide +kernel
theorem dX11_clears_51 : decode cX11_clears 51 = .ok (.getfield 7, 3) := by decide +kernel
theorem dX11_clears_54 : decode cX11_clears 54 = .ok (.iconst 0, 1) := by decide +kernel
theorem dX11_clears_55 : decode cX11_clears 55 = .ok (.iaload, 1) := by decide +kernel
theorem dX11_clears_56 : decode cX11_clears 56 = .ok (.if_icmp .ge 19, 3) := by decide +kernel
theorem dX11_clears_59 : decode cX11_clears 59 = .ok (.aload_n 0, 1) := by decide +kernel
theorem dX11_clears_60 : decode cX11_clears 60 = .ok (.iload_n 1, 1) := by decide +kernel
theorem dX11_clears_61 : decode cX11_clears 61 = .ok (.invokevirtual 167, 3) := by decide +kernel
theorem dX11_clears_64 : decode cX11_clears 64 = .ok (.aload_n 0, 1) := by decide +kernel
theorem dX11_clears_65 : decode cX11_clears 65 = .ok (.iload_n 1, 1) := by decide +kernel
theorem dX11_clears_66 : decode cX11_clears 66 = .ok (.invokevirtual 170, 3) := by decide +kernel
theorem dX11_clears_69 : decode cX11_clears 69 = .ok (.iinc 1 1, 3) := by decide +kernel
theorem dX11_clears_72 : decode cX11_clears 72 = .ok (.goto (-23), 3) := by decide +kernel
theorem dX11_clears_75 : decode cX11_clears 75 = .ok (.aload_n 0, 1) := by decide +kernel
theorem dX11_clears_76 : decode cX11_clears 76 = .ok (.getfield 115, 3) := by decide +kernel
theorem dX11_clears_79 : decode cX11_clears 79 = .ok (.istore_n 1, 1) := by decide +kernel
theorem dX11_clears_80 : decode cX11_clears 80 = .ok (.aload_n 0, 1) := by decide +kernel
theorem dX11_clears_81 : decode cX11_clears 81 = .ok (.invokevirtual 173, 3) := by decide +kernel
theorem dX11_clears_84 : decode cX11_clears 84 = .ok (.aload_n 0, 1) := by decide +kernel
theorem dX11_clears_85 : decode cX11_clears 85 = .ok (.getfield 7, 3) := by decide +kernel
theorem dX11_clears_88 : decode cX11_clears 88 = .ok (.iconst 2, 1) := by decide +kernel
theorem dX11_clears_89 : decode cX11_clears 89 = .ok (.dup2, 1) := by decide +kernel
theorem dX11_clears_90 : decode cX11_clears 90 = .ok (.iaload, 1) := by decide +kernel
theorem dX11_clears_91 : decode cX11_clears 91 = .ok (.iconst 1, 1) := by decide +kernel
theorem dX11_clears_92 : decode cX11_clears 92 = .ok (.iadd, 1) := by decide +kernel
theorem dX11_clears_93 : decode cX11_clears 93 = .ok (.iastore, 1) := by decide +kernel
theorem dX11_clears_94 : decode cX11_clears 94 = .ok (.aload_n 0, 1) := by decide +kernel
theorem dX11_clears_95 : decode cX11_clears 95 = .ok (.getfield 7, 3) := by decide +kernel
theorem dX11_clears_98 : decode cX11_clears 98 = .ok (.iconst 1, 1) := by decide +kernel
theorem dX11_clears_99 : decode cX11_clears 99 = .ok (.iaload, 1) := by decide +kernel
theorem dX11_clears_100 : decode cX11_clears 100 = .ok (.iconst 1, 1) := by decide +kernel
theorem dX11_clears_101 : decode cX11_clears 101 = .ok (.isub, 1) := by decide +kernel
theorem dX11_clears_102 : decode cX11_clears 102 = .ok (.istore_n 2, 1) := by decide +kernel
theorem dX11_clears_103 : decode cX11_clears 103 = .ok (.iload_n 2, 1) := by decide +kernel
theorem dX11_clears_104 : decode cX11_clears 104 = .ok (.ifCond .lt 47, 3) := by decide +kernel
theorem dX11_clears_107 : decode cX11_clears 107 = .ok (.aload_n 0, 1) := by decide +kernel
theorem dX11_clears_108 : decode cX11_clears 108 = .ok (.iload_n 2, 1) := by decide +kernel
theorem dX11_clears_109 : decode cX11_clears 109 = .ok (.iconst 4, 1) := by decide +kernel
theorem dX11_clears_110 : decode cX11_clears 110 = .ok (.invokevirtual 33, 3) := by decide +kernel
theorem dX11_clears_113 : decode cX11_clears 113 = .ok (.aload_n 0, 1) := by decide +kernel
theorem dX11_clears_114 : decode cX11_clears 114 = .ok (.getfield 7, 3) := by decide +kernel
theorem dX11_clears_117 : decode cX11_clears 117 = .ok (.iconst 4, 1) := by decide +kernel
theorem dX11_clears_118 : decode cX11_clears 118 = .ok (.iaload, 1) := by decide +kernel
theorem dX11_clears_119 : decode cX11_clears 119 = .ok (.iadd, 1) := by decide +kernel
theorem dX11_clears_120 : decode cX11_clears 120 = .ok (.aload_n 0, 1) := by decide +kernel
theorem dX11_clears_121 : decode cX11_clears 121 = .ok (.getfield 7, 3) := by decide +kernel
theorem dX11_clears_124 : decode cX11_clears 124 = .ok (.iconst 2, 1) := by decide +kernel
theorem dX11_clears_125 : decode cX11_clears 125 = .ok (.iaload, 1) := by decide +kernel
theorem dX11_clears_126 : decode cX11_clears 126 = .ok (.if_icmp .gt 19, 3) := by decide +kernel
theorem dX11_clears_129 : decode cX11_clears 129 = .ok (.aload_n 0, 1) := by decide +kernel
theorem dX11_clears_130 : decode cX11_clears 130 = .ok (.iload_n 2, 1) := by decide +kernel
theorem dX11_clears_131 : decode cX11_clears 131 = .ok (.invokevirtual 96, 3) := by decide +kernel
theorem dX11_clears_134 : decode cX11_clears 134 = .ok (.aload_n 0, 1) := by decide +kernel
theorem dX11_clears_135 : decode cX11_clears 135 = .ok (.getfield 7, 3) := by decide +kernel
theorem dX11_clears_138 : decode cX11_clears 138 = .ok (.bipush 10, 2) := by decide +kernel
theorem dX11_clears_140 : decode cX11_clears 140 = .ok (.dup2, 1) := by decide +kernel
theorem dX11_clears_141 : decode cX11_clears 141 = .ok (.iaload, 1) := by decide +kernel
theorem dX11_clears_142 : decode cX11_clears 142 = .ok (.iconst 1, 1) := by decide +kernel
theorem dX11_clears_143 : decode cX11_clears 143 = .ok (.iadd, 1) := by decide +kernel
theorem dX11_clears_144 : decode cX11_clears 144 = .ok (.iastore, 1) := by decide +kernel
theorem dX11_clears_145 : decode cX11_clears 145 = .ok (.iinc 2 (-1), 3) := by decide +kernel
theorem dX11_clears_148 : decode cX11_clears 148 = .ok (.goto (-45), 3) := by decide +kernel
theorem dX11_clears_151 : decode cX11_clears 151 = .ok (.iload_n 1, 1) := by decide +kernel
theorem dX11_clears_152 : decode cX11_clears 152 = .ok (.ireturn, 1) := by decide +kernel
theorem dX11_clearError_0 : decode cX11_clearError 0 = .ok (.aload_n 0, 1) := by decide +kernel
theorem dX11_clearError_1 : decode cX11_clearError 1 = .ok (.getfield 7, 3) := by decide +kernel
theorem dX11_clearError_4 : decode cX11_clearError 4 = .ok (.iconst 2, 1) := by decide +kernel
theorem dX11_clearError_5 : decode cX11_clearError 5 = .ok (.iaload, 1) := by decide +kernel
theorem dX11_clearError_6 : decode cX11_clearError 6 = .ok (.sipush 9999, 3) := by decide +kernel
theorem dX11_clearError_9 : decode cX11_clearError 9 = .ok (.if_icmp .lt 7, 3) := by decide +kernel
theorem dX11_clearError_12 : decode cX11_clearError 12 = .ok (.iconst 1, 1) := by decide +kernel
theorem dX11_clearError_13 : decode cX11_clearError 13 = .ok (.goto 4, 3) := by decide +kernel
theorem dX11_clearError_16 : decode cX11_clearError 16 = .ok (.iconst 0, 1) := by decide +kernel
theorem dX11_clearError_17 : decode cX11_clearError 17 = .ok (.ireturn, 1) := by decide +kernel
theorem dX11_clear_0 : decode cX11_clear 0 = .ok (.aload_n 0, 1) := by decide +kernel
theorem dX11_clear_1 : decode cX11_clear 1 = .ok (.aload_n 0, 1) := by decide +kernel
theorem dX11_clear_2 : decode cX11_clear 2 = .ok (.invokevirtual 176, 3) := by decide +kernel
theorem dX11_clear_5 : decode cX11_clear 5 = .ok (.putfield 25, 3) := by decide +kernel
theorem dX11_clear_8 : decode cX11_clear 8 = .ok (.aload_n 0, 1) := by decide +kernel
theorem dX11_clear_9 : decode cX11_clear 9 = .ok (.getfield 25, 3) := by decide +kernel
theorem dX11_clear_12 : decode cX11_clear 12 = .ok (.ifCond .eq 5, 3) := by decide +kernel
theorem dX11_clear_15 : decode cX11_clear 15 = .ok (.iconst 0, 1) := by decide +kernel
theorem dX11_clear_16 : decode cX11_clear 16 = .ok (.ireturn, 1) := by decide +kernel
theorem dX11_clear_17 : decode cX11_clear 17 = .ok (.aload_n 0, 1) := by decide +kernel
theorem dX11_clear_18 : decode cX11_clear 18 = .ok (.invokevirtual 54, 3) := by decide +kernel
theorem dX11_clear_21 : decode cX11_clear 21 = .ok (.aload_n 0, 1) := by decide +kernel
theorem dX11_clear_22 : decode cX11_clear 22 = .ok (.invokevirtual 179, 3) := by decide +kernel
theorem dX11_clear_25 : decode cX11_clear 25 = .ok (.ireturn, 1) := by decide +kernel
theorem dX11_ordersOf_0 : decode cX11_ordersOf 0 = .ok (.iconst 0, 1) := by decide +kernel
theorem dX11_ordersOf_1 : decode cX11_ordersOf 1 = .ok (.istore_n 3, 1) := by decide +kernel
theorem dX11_ordersOf_2 : decode cX11_ordersOf 2 = .ok (.iconst 0, 1) := by decide +kernel
theorem dX11_ordersOf_3 : decode cX11_ordersOf 3 = .ok (.istore 4, 2) := by decide +kernel
theorem dX11_ordersOf_5 : decode cX11_ordersOf 5 = .ok (.iload 4, 2) := by decide +kernel
theorem dX11_ordersOf_7 : decode cX11_ordersOf 7 = .ok (.aload_n 0, 1) := by decide +kernel
theorem dX11_ordersOf_8 : decode cX11_ordersOf 8 = .ok (.getfield 7, 3) := by decide +kernel
theorem dX11_ordersOf_11 : decode cX11_ordersOf 11 = .ok (.iconst 1, 1) := by decide +kernel
theorem dX11_ordersOf_12 : decode cX11_ordersOf 12 = .ok (.iaload, 1) := by decide +kernel
theorem dX11_ordersOf_13 : decode cX11_ordersOf 13 = .ok (.if_icmp .ge 42, 3) := by decide +kernel
theorem dX11_ordersOf_16 : decode cX11_ordersOf 16 = .ok (.iload_n 3, 1) := by decide +kernel
theorem dX11_ordersOf_17 : decode cX11_ordersOf 17 = .ok (.aload_n 0, 1) := by decide +kernel
theorem dX11_ordersOf_18 : decode cX11_ordersOf 18 = .ok (.iload 4, 2) := by decide +kernel
theorem dX11_ordersOf_20 : decode cX11_ordersOf 20 = .ok (.iconst 1, 1) := by decide +kernel
theorem dX11_ordersOf_21 : decode cX11_ordersOf 21 = .ok (.invokevirtual 33, 3) := by decide +kernel
theorem dX11_ordersOf_24 : decode cX11_ordersOf 24 = .ok (.iload_n 1, 1) := by decide +kernel
theorem dX11_ordersOf_25 : decode cX11_ordersOf 25 = .ok (.if_icmp .eq 7, 3) := by decide +kernel
theorem dX11_ordersOf_28 : decode cX11_ordersOf 28 = .ok (.iconst 0, 1) := by decide +kernel
theorem dX11_ordersOf_29 : decode cX11_ordersOf 29 = .ok (.goto 18, 3) := by decide +kernel
theorem dX11_ordersOf_32 : decode cX11_ordersOf 32 = .ok (.iload_n 2, 1) := by decide +kernel
theorem dX11_ordersOf_33 : decode cX11_ordersOf 33 = .ok (.ifCond .eq 13, 3) := by decide +kernel
theorem dX11_ordersOf_36 : decode cX11_ordersOf 36 = .ok (.aload_n 0, 1) := by decide +kernel
theorem dX11_ordersOf_37 : decode cX11_ordersOf 37 = .ok (.iload 4, 2) := by decide +kernel
theorem dX11_ordersOf_39 : decode cX11_ordersOf 39 = .ok (.iconst 3, 1) := by decide +kernel
theorem dX11_ordersOf_40 : decode cX11_ordersOf 40 = .ok (.invokevirtual 33, 3) := by decide +kernel
theorem dX11_ordersOf_43 : decode cX11_ordersOf 43 = .ok (.goto 4, 3) := by decide +kernel
theorem dX11_ordersOf_46 : decode cX11_ordersOf 46 = .ok (.iconst 1, 1) := by decide +kernel
theorem dX11_ordersOf_47 : decode cX11_ordersOf 47 = .ok (.iadd, 1) := by decide +kernel
theorem dX11_ordersOf_48 : decode cX11_ordersOf 48 = .ok (.istore_n 3, 1) := by decide +kernel
theorem dX11_ordersOf_49 : decode cX11_ordersOf 49 = .ok (.iinc 4 1, 3) := by decide +kernel
theorem dX11_ordersOf_52 : decode cX11_ordersOf 52 = .ok (.goto (-47), 3) := by decide +kernel
theorem dX11_ordersOf_55 : decode cX11_ordersOf 55 = .ok (.iload_n 3, 1) := by decide +kernel
theorem dX11_ordersOf_56 : decode cX11_ordersOf 56 = .ok (.ireturn, 1) := by decide +kernel
theorem dX11_tellsTrader_0 : decode cX11_tellsTrader 0 = .ok (.iload_n 2, 1) := by decide +kernel
theorem dX11_tellsTrader_1 : decode cX11_tellsTrader 1 = .ok (.iconst 4, 1) := by decide +kernel
theorem dX11_tellsTrader_2 : decode cX11_tellsTrader 2 = .ok (.if_icmp .ge 10, 3) := by decide +kernel
theorem dX11_tellsTrader_5 : decode cX11_tellsTrader 5 = .ok (.aload_n 0, 1) := by decide +kernel
theorem dX11_tellsTrader_6 : decode cX11_tellsTrader 6 = .ok (.iload_n 1, 1) := by decide +kernel
theorem dX11_tellsTrader_7 : decode cX11_tellsTrader 7 = .ok (.iload_n 2, 1) := by decide +kernel
theorem dX11_tellsTrader_8 : decode cX11_tellsTrader 8 = .ok (.invokevirtual 64, 3) := by decide +kernel
theorem dX11_tellsTrader_11 : decode cX11_tellsTrader 11 = .ok (.ireturn, 1) := by decide +kernel
theorem dX11_tellsTrader_12 : decode cX11_tellsTrader 12 = .ok (.iload_n 2, 1) := by decide +kernel
theorem dX11_tellsTrader_13 : decode cX11_tellsTrader 13 = .ok (.bipush 6, 2) := by decide +kernel
theorem dX11_tellsTrader_15 : decode cX11_tellsTrader 15 = .ok (.if_icmp .le 12, 3) := by decide +kernel
theorem dX11_tellsTrader_18 : decode cX11_tellsTrader 18 = .ok (.aload_n 0, 1) := by decide +kernel
theorem dX11_tellsTrader_19 : decode cX11_tellsTrader 19 = .ok (.iload_n 1, 1) := by decide +kernel
theorem dX11_tellsTrader_20 : decode cX11_tellsTrader 20 = .ok (.iload_n 2, 1) := by decide +kernel
theorem dX11_tellsTrader_21 : decode cX11_tellsTrader 21 = .ok (.iconst 3, 1) := by decide +kernel
theorem dX11_tellsTrader_22 : decode cX11_tellsTrader 22 = .ok (.isub, 1) := by decide +kernel
theorem dX11_tellsTrader_23 : decode cX11_tellsTrader 23 = .ok (.invokevirtual 64, 3) := by decide +kernel
theorem dX11_tellsTrader_26 : decode cX11_tellsTrader 26 = .ok (.ireturn, 1) := by decide +kernel
theorem dX11_tellsTrader_27 : decode cX11_tellsTrader 27 = .ok (.iload_n 2, 1) := by decide +kernel
theorem dX11_tellsTrader_28 : decode cX11_tellsTrader 28 = .ok (.iconst 4, 1) := by decide +kernel
theorem dX11_tellsTrader_29 : decode cX11_tellsTrader 29 = .ok (.if_icmp .ne 11, 3) := by decide +kernel
theorem dX11_tellsTrader_32 : decode cX11_tellsTrader 32 = .ok (.aload_n 0, 1) := by decide +kernel
theorem dX11_tellsTrader_33 : decode cX11_tellsTrader 33 = .ok (.iload_n 1, 1) := by decide +kernel
theorem dX11_tellsTrader_34 : decode cX11_tellsTrader 34 = .ok (.invokevirtual 70, 3) := by decide +kernel
theorem dX11_tellsTrader_37 : decode cX11_tellsTrader 37 = .ok (.goto 19, 3) := by decide +kernel
theorem dX11_tellsTrader_40 : decode cX11_tellsTrader 40 = .ok (.aload_n 0, 1) := by decide +kernel
theorem dX11_tellsTrader_41 : decode cX11_tellsTrader 41 = .ok (.iload_n 1, 1) := by decide +kernel
theorem dX11_tellsTrader_42 : decode cX11_tellsTrader 42 = .ok (.iload_n 2, 1) := by decide +kernel
theorem dX11_tellsTrader_43 : decode cX11_tellsTrader 43 = .ok (.bipush 6, 2) := by decide +kernel
theorem dX11_tellsTrader_45 : decode cX11_tellsTrader 45 = .ok (.if_icmp .ne 7, 3) := by decide +kernel
theorem dX11_tellsTrader_48 : decode cX11_tellsTrader 48 = .ok (.iconst 1, 1) := by decide +kernel
theorem dX11_tellsTrader_49 : decode cX11_tellsTrader 49 = .ok (.goto 4, 3) := by decide +kernel
theorem dX11_tellsTrader_52 : decode cX11_tellsTrader 52 = .ok (.iconst 0, 1) := by decide +kernel
theorem dX11_tellsTrader_53 : decode cX11_tellsTrader 53 = .ok (.invokevirtual 182, 3) := by decide +kernel
theorem dX11_tellsTrader_56 : decode cX11_tellsTrader 56 = .ok (.ireturn, 1) := by decide +kernel
theorem dX11_trader_0 : decode cX11_trader 0 = .ok (.aload_n 0, 1) := by decide +kernel
theorem dX11_trader_1 : decode cX11_trader 1 = .ok (.aload_n 0, 1) := by decide +kernel
theorem dX11_trader_2 : decode cX11_trader 2 = .ok (.iload_n 1, 1) := by decide +kernel
theorem dX11_trader_3 : decode cX11_trader 3 = .ok (.invokevirtual 60, 3) := by decide +kernel
theorem dX11_trader_6 : decode cX11_trader 6 = .ok (.ifCond .ne 7, 3) := by decide +kernel
theorem dX11_trader_9 : decode cX11_trader 9 = .ok (.iconst 1, 1) := by decide +kernel
theorem dX11_trader_10 : decode cX11_trader 10 = .ok (.goto 18, 3) := by decide +kernel
theorem dX11_trader_13 : decode cX11_trader 13 = .ok (.iload_n 2, 1) := by decide +kernel
theorem dX11_trader_14 : decode cX11_trader 14 = .ok (.iconst 0, 1) := by decide +kernel
theorem dX11_trader_15 : decode cX11_trader 15 = .ok (.bipush 9, 2) := by decide +kernel
theorem dX11_trader_17 : decode cX11_trader 17 = .ok (.invokestatic 29, 3) := by decide +kernel
theorem dX11_trader_20 : decode cX11_trader 20 = .ok (.ifCond .eq 7, 3) := by decide +kernel
theorem dX11_trader_23 : decode cX11_trader 23 = .ok (.iconst 0, 1) := by decide +kernel
theorem dX11_trader_24 : decode cX11_trader 24 = .ok (.goto 4, 3) := by decide +kernel
theorem dX11_trader_27 : decode cX11_trader 27 = .ok (.iconst 2, 1) := by decide +kernel
theorem dX11_trader_28 : decode cX11_trader 28 = .ok (.putfield 25, 3) := by decide +kernel
theorem dX11_trader_31 : decode cX11_trader 31 = .ok (.aload_n 0, 1) := by decide +kernel
theorem dX11_trader_32 : decode cX11_trader 32 = .ok (.getfield 25, 3) := by decide +kernel
theorem dX11_trader_35 : decode cX11_trader 35 = .ok (.ifCond .ne 12, 3) := by decide +kernel
theorem dX11_trader_38 : decode cX11_trader 38 = .ok (.aload_n 0, 1) := by decide +kernel
theorem dX11_trader_39 : decode cX11_trader 39 = .ok (.iload_n 1, 1) := by decide +kernel
theorem dX11_trader_40 : decode cX11_trader 40 = .ok (.iload_n 2, 1) := by decide +kernel
theorem dX11_trader_41 : decode cX11_trader 41 = .ok (.invokevirtual 186, 3) := by decide +kernel
theorem dX11_trader_44 : decode cX11_trader 44 = .ok (.goto 4, 3) := by decide +kernel
theorem dX11_trader_47 : decode cX11_trader 47 = .ok (.iconst 0, 1) := by decide +kernel
theorem dX11_trader_48 : decode cX11_trader 48 = .ok (.ireturn, 1) := by decide +kernel
theorem dX11_tellsOrder_0 : decode cX11_tellsOrder 0 = .ok (.iload_n 2, 1) := by decide +kernel
theorem dX11_tellsOrder_1 : decode cX11_tellsOrder 1 = .ok (.iconst 4, 1) := by decide +kernel
theorem dX11_tellsOrder_2 : decode cX11_tellsOrder 2 = .ok (.if_icmp .ne 11, 3) := by decide +kernel
theorem dX11_tellsOrder_5 : decode cX11_tellsOrder 5 = .ok (.aload_n 0, 1) := by decide +kernel
theorem dX11_tellsOrder_6 : decode cX11_tellsOrder 6 = .ok (.iload_n 1, 1) := by decide +kernel
theorem dX11_tellsOrder_7 : decode cX11_tellsOrder 7 = .ok (.invokevirtual 145, 3) := by decide +kernel
theorem dX11_tellsOrder_10 : decode cX11_tellsOrder 10 = .ok (.goto 11, 3) := by decide +kernel
theorem dX11_tellsOrder_13 : decode cX11_tellsOrder 13 = .ok (.aload_n 0, 1) := by decide +kernel
theorem dX11_tellsOrder_14 : decode cX11_tellsOrder 14 = .ok (.iload_n 1, 1) := by decide +kernel
theorem dX11_tellsOrder_15 : decode cX11_tellsOrder 15 = .ok (.iload_n 2, 1) := by decide +kernel
theorem dX11_tellsOrder_16 : decode cX11_tellsOrder 16 = .ok (.iconst 1, 1) := by decide +kernel
theorem dX11_tellsOrder_17 : decode cX11_tellsOrder 17 = .ok (.iadd, 1) := by decide +kernel
theorem dX11_tellsOrder_18 : decode cX11_tellsOrder 18 = .ok (.invokevirtual 33, 3) := by decide +kernel
theorem dX11_tellsOrder_21 : decode cX11_tellsOrder 21 = .ok (.ireturn, 1) := by decide +kernel
theorem dX11_orderOf_0 : decode cX11_orderOf 0 = .ok (.aload_n 0, 1) := by decide +kernel
theorem dX11_orderOf_1 : decode cX11_orderOf 1 = .ok (.aload_n 0, 1) := by decide +kernel
theorem dX11_orderOf_2 : decode cX11_orderOf 2 = .ok (.iload_n 1, 1) := by decide +kernel
theorem dX11_orderOf_3 : decode cX11_orderOf 3 = .ok (.invokevirtual 99, 3) := by decide +kernel
theorem dX11_orderOf_6 : decode cX11_orderOf 6 = .ok (.ifCond .ge 7, 3) := by decide +kernel
theorem dX11_orderOf_9 : decode cX11_orderOf 9 = .ok (.iconst 1, 1) := by decide +kernel
theorem dX11_orderOf_10 : decode cX11_orderOf 10 = .ok (.goto 17, 3) := by decide +kernel
theorem dX11_orderOf_13 : decode cX11_orderOf 13 = .ok (.iload_n 2, 1) := by decide +kernel
theorem dX11_orderOf_14 : decode cX11_orderOf 14 = .ok (.iconst 0, 1) := by decide +kernel
theorem dX11_orderOf_15 : decode cX11_orderOf 15 = .ok (.iconst 4, 1) := by decide +kernel
theorem dX11_orderOf_16 : decode cX11_orderOf 16 = .ok (.invokestatic 29, 3) := by decide +kernel
theorem dX11_orderOf_19 : decode cX11_orderOf 19 = .ok (.ifCond .eq 7, 3) := by decide +kernel
theorem dX11_orderOf_22 : decode cX11_orderOf 22 = .ok (.iconst 0, 1) := by decide +kernel
theorem dX11_orderOf_23 : decode cX11_orderOf 23 = .ok (.goto 4, 3) := by decide +kernel
theorem dX11_orderOf_26 : decode cX11_orderOf 26 = .ok (.iconst 2, 1) := by decide +kernel
theorem dX11_orderOf_27 : decode cX11_orderOf 27 = .ok (.putfield 25, 3) := by decide +kernel
theorem dX11_orderOf_30 : decode cX11_orderOf 30 = .ok (.aload_n 0, 1) := by decide +kernel
theorem dX11_orderOf_31 : decode cX11_orderOf 31 = .ok (.getfield 25, 3) := by decide +kernel
theorem dX11_orderOf_34 : decode cX11_orderOf 34 = .ok (.ifCond .ne 16, 3) := by decide +kernel
theorem dX11_orderOf_37 : decode cX11_orderOf 37 = .ok (.aload_n 0, 1) := by decide +kernel
theorem dX11_orderOf_38 : decode cX11_orderOf 38 = .ok (.aload_n 0, 1) := by decide +kernel
theorem dX11_orderOf_39 : decode cX11_orderOf 39 = .ok (.iload_n 1, 1) := by decide +kernel
theorem dX11_orderOf_40 : decode cX11_orderOf 40 = .ok (.invokevirtual 99, 3) := by decide +kernel
theorem dX11_orderOf_43 : decode cX11_orderOf 43 = .ok (.iload_n 2, 1) := by decide +kernel
theorem dX11_orderOf_44 : decode cX11_orderOf 44 = .ok (.invokevirtual 189, 3) := by decide +kernel
theorem dX11_orderOf_47 : decode cX11_orderOf 47 = .ok (.goto 4, 3) := by decide +kernel
theorem dX11_orderOf_50 : decode cX11_orderOf 50 = .ok (.iconst 0, 1) := by decide +kernel
theorem dX11_orderOf_51 : decode cX11_orderOf 51 = .ok (.ireturn, 1) := by decide +kernel
theorem dX11_trade_0 : decode cX11_trade 0 = .ok (.aload_n 0, 1) := by decide +kernel
theorem dX11_trade_1 : decode cX11_trade 1 = .ok (.iload_n 1, 1) := by decide +kernel
theorem dX11_trade_2 : decode cX11_trade 2 = .ok (.ifCond .lt 16, 3) := by decide +kernel
theorem dX11_trade_5 : decode cX11_trade 5 = .ok (.iload_n 2, 1) := by decide +kernel
theorem dX11_trade_6 : decode cX11_trade 6 = .ok (.iconst 0, 1) := by decide +kernel
theorem dX11_trade_7 : decode cX11_trade 7 = .ok (.iconst 4, 1) := by decide +kernel
theorem dX11_trade_8 : decode cX11_trade 8 = .ok (.invokestatic 29, 3) := by decide +kernel
theorem dX11_trade_11 : decode cX11_trade 11 = .ok (.ifCond .eq 7, 3) := by decide +kernel
theorem dX11_trade_14 : decode cX11_trade 14 = .ok (.iconst 0, 1) := by decide +kernel
theorem dX11_trade_15 : decode cX11_trade 15 = .ok (.goto 4, 3) := by decide +kernel
theorem dX11_trade_18 : decode cX11_trade 18 = .ok (.iconst 1, 1) := by decide +kernel
theorem dX11_trade_19 : decode cX11_trade 19 = .ok (.putfield 25, 3) := by decide +kernel
theorem dX11_trade_22 : decode cX11_trade 22 = .ok (.aload_n 0, 1) := by decide +kernel
theorem dX11_trade_23 : decode cX11_trade 23 = .ok (.getfield 25, 3) := by decide +kernel
theorem dX11_trade_26 : decode cX11_trade 26 = .ok (.ifCond .eq 5, 3) := by decide +kernel
theorem dX11_trade_29 : decode cX11_trade 29 = .ok (.iconst 0, 1) := by decide +kernel
theorem dX11_trade_30 : decode cX11_trade 30 = .ok (.ireturn, 1) := by decide +kernel
theorem dX11_trade_31 : decode cX11_trade 31 = .ok (.iload_n 1, 1) := by decide +kernel
theorem dX11_trade_32 : decode cX11_trade 32 = .ok (.aload_n 0, 1) := by decide +kernel
theorem dX11_trade_33 : decode cX11_trade 33 = .ok (.getfield 7, 3) := by decide +kernel
theorem dX11_trade_36 : decode cX11_trade 36 = .ok (.bipush 9, 2) := by decide +kernel
theorem dX11_trade_38 : decode cX11_trade 38 = .ok (.iaload, 1) := by decide +kernel
theorem dX11_trade_39 : decode cX11_trade 39 = .ok (.if_icmp .ge 20, 3) := by decide +kernel
theorem dX11_trade_42 : decode cX11_trade 42 = .ok (.aload_n 0, 1) := by decide +kernel
theorem dX11_trade_43 : decode cX11_trade 43 = .ok (.getfield 7, 3) := by decide +kernel
theorem dX11_trade_46 : decode cX11_trade 46 = .ok (.sipush 167, 3) := by decide +kernel
theorem dX11_trade_49 : decode cX11_trade 49 = .ok (.iconst 5, 1) := by decide +kernel
theorem dX11_trade_50 : decode cX11_trade 50 = .ok (.iload_n 1, 1) := by decide +kernel
theorem dX11_trade_51 : decode cX11_trade 51 = .ok (.imul, 1) := by decide +kernel
theorem dX11_trade_52 : decode cX11_trade 52 = .ok (.iadd, 1) := by decide +kernel
theorem dX11_trade_53 : decode cX11_trade 53 = .ok (.iload_n 2, 1) := by decide +kernel
theorem dX11_trade_54 : decode cX11_trade 54 = .ok (.iadd, 1) := by decide +kernel
theorem dX11_trade_55 : decode cX11_trade 55 = .ok (.iaload, 1) := by decide +kernel
theorem dX11_trade_56 : decode cX11_trade 56 = .ok (.goto 6, 3) := by decide +kernel
theorem dX11_trade_59 : decode cX11_trade 59 = .ok (.sipush (-10000), 3) := by decide +kernel
theorem dX11_trade_62 : decode cX11_trade 62 = .ok (.ireturn, 1) := by decide +kernel
theorem dX11_at_0 : decode cX11_at 0 = .ok (.aload_n 0, 1) := by decide +kernel
theorem dX11_at_1 : decode cX11_at 1 = .ok (.iload_n 1, 1) := by decide +kernel
theorem dX11_at_2 : decode cX11_at 2 = .ok (.iconst 1, 1) := by decide +kernel
theorem dX11_at_3 : decode cX11_at 3 = .ok (.bipush 120, 2) := by decide +kernel
theorem dX11_at_5 : decode cX11_at 5 = .ok (.invokestatic 29, 3) := by decide +kernel
theorem dX11_at_8 : decode cX11_at 8 = .ok (.ifCond .eq 16, 3) := by decide +kernel
theorem dX11_at_11 : decode cX11_at 11 = .ok (.iload_n 2, 1) := by decide +kernel
theorem dX11_at_12 : decode cX11_at 12 = .ok (.iconst 0, 1) := by decide +kernel
theorem dX11_at_13 : decode cX11_at 13 = .ok (.iconst 2, 1) := by decide +kernel
theorem dX11_at_14 : decode cX11_at 14 = .ok (.invokestatic 29, 3) := by decide +kernel
theorem dX11_at_17 : decode cX11_at 17 = .ok (.ifCond .eq 7, 3) := by decide +kernel
theorem dX11_at_20 : decode cX11_at 20 = .ok (.iconst 0, 1) := by decide +kernel
theorem dX11_at_21 : decode cX11_at 21 = .ok (.goto 4, 3) := by decide +kernel
theorem dX11_at_24 : decode cX11_at 24 = .ok (.iconst 1, 1) := by decide +kernel
theorem dX11_at_25 : decode cX11_at 25 = .ok (.putfield 25, 3) := by decide +kernel
theorem dX11_at_28 : decode cX11_at 28 = .ok (.aload_n 0, 1) := by decide +kernel
theorem dX11_at_29 : decode cX11_at 29 = .ok (.getfield 25, 3) := by decide +kernel
theorem dX11_at_32 : decode cX11_at 32 = .ok (.ifCond .eq 5, 3) := by decide +kernel
theorem dX11_at_35 : decode cX11_at 35 = .ok (.iconst 0, 1) := by decide +kernel
theorem dX11_at_36 : decode cX11_at 36 = .ok (.ireturn, 1) := by decide +kernel
theorem dX11_at_37 : decode cX11_at 37 = .ok (.iload_n 2, 1) := by decide +kernel
theorem dX11_at_38 : decode cX11_at 38 = .ok (.iconst 2, 1) := by decide +kernel
theorem dX11_at_39 : decode cX11_at 39 = .ok (.if_icmp .ne 11, 3) := by decide +kernel
theorem dX11_at_42 : decode cX11_at 42 = .ok (.aload_n 0, 1) := by decide +kernel
theorem dX11_at_43 : decode cX11_at 43 = .ok (.iload_n 1, 1) := by decide +kernel
theorem dX11_at_44 : decode cX11_at 44 = .ok (.invokevirtual 124, 3) := by decide +kernel
theorem dX11_at_47 : decode cX11_at 47 = .ok (.goto 9, 3) := by decide +kernel
theorem dX11_at_50 : decode cX11_at 50 = .ok (.aload_n 0, 1) := by decide +kernel
theorem dX11_at_51 : decode cX11_at 51 = .ok (.iload_n 2, 1) := by decide +kernel
theorem dX11_at_52 : decode cX11_at 52 = .ok (.iload_n 1, 1) := by decide +kernel
theorem dX11_at_53 : decode cX11_at 53 = .ok (.invokevirtual 112, 3) := by decide +kernel
theorem dX11_at_56 : decode cX11_at 56 = .ok (.ireturn, 1) := by decide +kernel
theorem dX11_share_0 : decode cX11_share 0 = .ok (.iload_n 0, 1) := by decide +kernel
theorem dX11_share_1 : decode cX11_share 1 = .ok (.ifCond .ge 5, 3) := by decide +kernel
theorem dX11_share_4 : decode cX11_share 4 = .ok (.iconst 0, 1) := by decide +kernel
theorem dX11_share_5 : decode cX11_share 5 = .ok (.ireturn, 1) := by decide +kernel
theorem dX11_share_6 : decode cX11_share 6 = .ok (.iload_n 1, 1) := by decide +kernel
theorem dX11_share_7 : decode cX11_share 7 = .ok (.ifCond .ne 8, 3) := by decide +kernel
theorem dX11_share_10 : decode cX11_share 10 = .ok (.bipush 100, 2) := by decide +kernel
theorem dX11_share_12 : decode cX11_share 12 = .ok (.goto 9, 3) := by decide +kernel
theorem dX11_share_15 : decode cX11_share 15 = .ok (.iload_n 0, 1) := by decide +kernel
theorem dX11_share_16 : decode cX11_share 16 = .ok (.bipush 100, 2) := by decide +kernel
theorem dX11_share_18 : decode cX11_share 18 = .ok (.imul, 1) := by decide +kernel
theorem dX11_share_19 : decode cX11_share 19 = .ok (.iload_n 1, 1) := by decide +kernel
theorem dX11_share_20 : decode cX11_share 20 = .ok (.idiv, 1) := by decide +kernel
theorem dX11_share_21 : decode cX11_share 21 = .ok (.ireturn, 1) := by decide +kernel
theorem dX11_tellsNow_0 : decode cX11_tellsNow 0 = .ok (.aload_n 0, 1) := by decide +kernel
theorem dX11_tellsNow_1 : decode cX11_tellsNow 1 = .ok (.invokevirtual 157, 3) := by decide +kernel
theorem dX11_tellsNow_4 : decode cX11_tellsNow 4 = .ok (.iload_n 1, 1) := by decide +kernel
theorem dX11_tellsNow_5 : decode cX11_tellsNow 5 = .ok (.tableswitch 69 0 5 #[39, 44, 49, 54, 59, 64], 39) := by decide +kernel
theorem dX11_tellsNow_44 : decode cX11_tellsNow 44 = .ok (.aload_n 0, 1) := by decide +kernel
theorem dX11_tellsNow_45 : decode cX11_tellsNow 45 = .ok (.getfield 118, 3) := by decide +kernel
theorem dX11_tellsNow_48 : decode cX11_tellsNow 48 = .ok (.ireturn, 1) := by decide +kernel
theorem dX11_tellsNow_49 : decode cX11_tellsNow 49 = .ok (.aload_n 0, 1) := by decide +kernel
theorem dX11_tellsNow_50 : decode cX11_tellsNow 50 = .ok (.getfield 121, 3) := by decide +kernel
theorem dX11_tellsNow_53 : decode cX11_tellsNow 53 = .ok (.ireturn, 1) := by decide +kernel
theorem dX11_tellsNow_54 : decode cX11_tellsNow 54 = .ok (.aload_n 0, 1) := by decide +kernel
theorem dX11_tellsNow_55 : decode cX11_tellsNow 55 = .ok (.getfield 127, 3) := by decide +kernel
theorem dX11_tellsNow_58 : decode cX11_tellsNow 58 = .ok (.ireturn, 1) := by decide +kernel
theorem dX11_tellsNow_59 : decode cX11_tellsNow 59 = .ok (.aload_n 0, 1) := by decide +kernel
theorem dX11_tellsNow_60 : decode cX11_tellsNow 60 = .ok (.getfield 115, 3) := by decide +kernel
theorem dX11_tellsNow_63 : decode cX11_tellsNow 63 = .ok (.ireturn, 1) := by decide +kernel
theorem dX11_tellsNow_64 : decode cX11_tellsNow 64 = .ok (.aload_n 0, 1) := by decide +kernel
theorem dX11_tellsNow_65 : decode cX11_tellsNow 65 = .ok (.invokevirtual 163, 3) := by decide +kernel
theorem dX11_tellsNow_68 : decode cX11_tellsNow 68 = .ok (.ireturn, 1) := by decide +kernel
theorem dX11_tellsNow_69 : decode cX11_tellsNow 69 = .ok (.aload_n 0, 1) := by decide +kernel
theorem dX11_tellsNow_70 : decode cX11_tellsNow 70 = .ok (.invokevirtual 192, 3) := by decide +kernel
theorem dX11_tellsNow_73 : decode cX11_tellsNow 73 = .ok (.ireturn, 1) := by decide +kernel
theorem dX11_tellsNow_74 : decode cX11_tellsNow 74 = .ok (.aload_n 0, 1) := by decide +kernel
theorem dX11_tellsNow_75 : decode cX11_tellsNow 75 = .ok (.invokevirtual 163, 3) := by decide +kernel
theorem dX11_tellsNow_78 : decode cX11_tellsNow 78 = .ok (.aload_n 0, 1) := by decide +kernel
theorem dX11_tellsNow_79 : decode cX11_tellsNow 79 = .ok (.invokevirtual 192, 3) := by decide +kernel
theorem dX11_tellsNow_82 : decode cX11_tellsNow 82 = .ok (.invokestatic 195, 3) := by decide +kernel
theorem dX11_tellsNow_85 : decode cX11_tellsNow 85 = .ok (.ireturn, 1) := by decide +kernel
theorem dX11_now_0 : decode cX11_now 0 = .ok (.aload_n 0, 1) := by decide +kernel
theorem dX11_now_1 : decode cX11_now 1 = .ok (.iload_n 1, 1) := by decide +kernel
theorem dX11_now_2 : decode cX11_now 2 = .ok (.iconst 0, 1) := by decide +kernel
theorem dX11_now_3 : decode cX11_now 3 = .ok (.bipush 6, 2) := by decide +kernel
theorem dX11_now_5 : decode cX11_now 5 = .ok (.invokestatic 29, 3) := by decide +kernel
theorem dX11_now_8 : decode cX11_now 8 = .ok (.ifCond .eq 7, 3) := by decide +kernel
theorem dX11_now_11 : decode cX11_now 11 = .ok (.iconst 0, 1) := by decide +kernel
theorem dX11_now_12 : decode cX11_now 12 = .ok (.goto 4, 3) := by decide +kernel
theorem dX11_now_15 : decode cX11_now 15 = .ok (.iconst 1, 1) := by decide +kernel
theorem dX11_now_16 : decode cX11_now 16 = .ok (.putfield 25, 3) := by decide +kernel
theorem dX11_now_19 : decode cX11_now 19 = .ok (.aload_n 0, 1) := by decide +kernel
theorem dX11_now_20 : decode cX11_now 20 = .ok (.getfield 25, 3) := by decide +kernel
theorem dX11_now_23 : decode cX11_now 23 = .ok (.ifCond .ne 11, 3) := by decide +kernel
theorem dX11_now_26 : decode cX11_now 26 = .ok (.aload_n 0, 1) := by decide +kernel
theorem dX11_now_27 : decode cX11_now 27 = .ok (.iload_n 1, 1) := by decide +kernel
theorem dX11_now_28 : decode cX11_now 28 = .ok (.invokevirtual 198, 3) := by decide +kernel
theorem dX11_now_31 : decode cX11_now 31 = .ok (.goto 4, 3) := by decide +kernel
theorem dX11_now_34 : decode cX11_now 34 = .ok (.iconst 0, 1) := by decide +kernel
theorem dX11_now_35 : decode cX11_now 35 = .ok (.ireturn, 1) := by decide +kernel
theorem dX11_tellsWhole_0 : decode cX11_tellsWhole 0 = .ok (.iload_n 1, 1) := by decide +kernel
theorem dX11_tellsWhole_1 : decode cX11_tellsWhole 1 = .ok (.bipush 11, 2) := by decide +kernel
theorem dX11_tellsWhole_3 : decode cX11_tellsWhole 3 = .ok (.if_icmp .ne 10, 3) := by decide +kernel
theorem dX11_tellsWhole_6 : decode cX11_tellsWhole 6 = .ok (.aload_n 0, 1) := by decide +kernel
theorem dX11_tellsWhole_7 : decode cX11_tellsWhole 7 = .ok (.getfield 201, 3) := by decide +kernel
theorem dX11_tellsWhole_10 : decode cX11_tellsWhole 10 = .ok (.goto 9, 3) := by decide +kernel
theorem dX11_tellsWhole_13 : decode cX11_tellsWhole 13 = .ok (.aload_n 0, 1) := by decide +kernel
theorem dX11_tellsWhole_14 : decode cX11_tellsWhole 14 = .ok (.getfield 7, 3) := by decide +kernel
theorem dX11_tellsWhole_17 : decode cX11_tellsWhole 17 = .ok (.iload_n 1, 1) := by decide +kernel
theorem dX11_tellsWhole_18 : decode cX11_tellsWhole 18 = .ok (.iaload, 1) := by decide +kernel
theorem dX11_tellsWhole_19 : decode cX11_tellsWhole 19 = .ok (.ireturn, 1) := by decide +kernel
theorem dX11_whole_0 : decode cX11_whole 0 = .ok (.aload_n 0, 1) := by decide +kernel
theorem dX11_whole_1 : decode cX11_whole 1 = .ok (.iload_n 1, 1) := by decide +kernel
theorem dX11_whole_2 : decode cX11_whole 2 = .ok (.iconst 0, 1) := by decide +kernel
theorem dX11_whole_3 : decode cX11_whole 3 = .ok (.bipush 11, 2) := by decide +kernel
theorem dX11_whole_5 : decode cX11_whole 5 = .ok (.invokestatic 29, 3) := by decide +kernel
theorem dX11_whole_8 : decode cX11_whole 8 = .ok (.ifCond .eq 7, 3) := by decide +kernel
theorem dX11_whole_11 : decode cX11_whole 11 = .ok (.iconst 0, 1) := by decide +kernel
theorem dX11_whole_12 : decode cX11_whole 12 = .ok (.goto 4, 3) := by decide +kernel
theorem dX11_whole_15 : decode cX11_whole 15 = .ok (.iconst 1, 1) := by decide +kernel
theorem dX11_whole_16 : decode cX11_whole 16 = .ok (.putfield 25, 3) := by decide +kernel
theorem dX11_whole_19 : decode cX11_whole 19 = .ok (.aload_n 0, 1) := by decide +kernel
theorem dX11_whole_20 : decode cX11_whole 20 = .ok (.getfield 25, 3) := by decide +kernel
theorem dX11_whole_23 : decode cX11_whole 23 = .ok (.ifCond .ne 11, 3) := by decide +kernel
theorem dX11_whole_26 : decode cX11_whole 26 = .ok (.aload_n 0, 1) := by decide +kernel
theorem dX11_whole_27 : decode cX11_whole 27 = .ok (.iload_n 1, 1) := by decide +kernel
theorem dX11_whole_28 : decode cX11_whole 28 = .ok (.invokevirtual 204, 3) := by decide +kernel
theorem dX11_whole_31 : decode cX11_whole 31 = .ok (.goto 4, 3) := by decide +kernel
theorem dX11_whole_34 : decode cX11_whole 34 = .ok (.iconst 0, 1) := by decide +kernel
theorem dX11_whole_35 : decode cX11_whole 35 = .ok (.ireturn, 1) := by decide +kernel
theorem dX11_filledOf_0 : decode cX11_filledOf 0 = .ok (.aload_n 0, 1) := by decide +kernel
theorem dX11_filledOf_1 : decode cX11_filledOf 1 = .ok (.invokevirtual 157, 3) := by decide +kernel
theorem dX11_filledOf_4 : decode cX11_filledOf 4 = .ok (.aload_n 0, 1) := by decide +kernel
theorem dX11_filledOf_5 : decode cX11_filledOf 5 = .ok (.iload_n 1, 1) := by decide +kernel
theorem dX11_filledOf_6 : decode cX11_filledOf 6 = .ok (.invokevirtual 133, 3) := by decide +kernel
theorem dX11_filledOf_9 : decode cX11_filledOf 9 = .ok (.ireturn, 1) := by decide +kernel
theorem dX11_filled_0 : decode cX11_filled 0 = .ok (.aload_n 0, 1) := by decide +kernel
theorem dX11_filled_1 : decode cX11_filled 1 = .ok (.aload_n 0, 1) := by decide +kernel
theorem dX11_filled_2 : decode cX11_filled 2 = .ok (.iload_n 1, 1) := by decide +kernel
theorem dX11_filled_3 : decode cX11_filled 3 = .ok (.invokevirtual 99, 3) := by decide +kernel
theorem dX11_filled_6 : decode cX11_filled 6 = .ok (.ifCond .ge 7, 3) := by decide +kernel
theorem dX11_filled_9 : decode cX11_filled 9 = .ok (.iconst 1, 1) := by decide +kernel
theorem dX11_filled_10 : decode cX11_filled 10 = .ok (.goto 4, 3) := by decide +kernel
theorem dX11_filled_13 : decode cX11_filled 13 = .ok (.iconst 0, 1) := by decide +kernel
theorem dX11_filled_14 : decode cX11_filled 14 = .ok (.putfield 25, 3) := by decide +kernel
theorem dX11_filled_17 : decode cX11_filled 17 = .ok (.aload_n 0, 1) := by decide +kernel
theorem dX11_filled_18 : decode cX11_filled 18 = .ok (.getfield 25, 3) := by decide +kernel
theorem dX11_filled_21 : decode cX11_filled 21 = .ok (.ifCond .ne 15, 3) := by decide +kernel
theorem dX11_filled_24 : decode cX11_filled 24 = .ok (.aload_n 0, 1) := by decide +kernel
theorem dX11_filled_25 : decode cX11_filled 25 = .ok (.aload_n 0, 1) := by decide +kernel
theorem dX11_filled_26 : decode cX11_filled 26 = .ok (.iload_n 1, 1) := by decide +kernel
theorem dX11_filled_27 : decode cX11_filled 27 = .ok (.invokevirtual 99, 3) := by decide +kernel
theorem dX11_filled_30 : decode cX11_filled 30 = .ok (.invokevirtual 207, 3) := by decide +kernel
theorem dX11_filled_33 : decode cX11_filled 33 = .ok (.goto 4, 3) := by decide +kernel
theorem dX11_filled_36 : decode cX11_filled 36 = .ok (.iconst 0, 1) := by decide +kernel
theorem dX11_filled_37 : decode cX11_filled 37 = .ok (.ireturn, 1) := by decide +kernel
theorem dX11_reason_0 : decode cX11_reason 0 = .ok (.aload_n 0, 1) := by decide +kernel
theorem dX11_reason_1 : decode cX11_reason 1 = .ok (.iload_n 1, 1) := by decide +kernel
theorem dX11_reason_2 : decode cX11_reason 2 = .ok (.invokevirtual 99, 3) := by decide +kernel
theorem dX11_reason_5 : decode cX11_reason 5 = .ok (.istore_n 2, 1) := by decide +kernel
theorem dX11_reason_6 : decode cX11_reason 6 = .ok (.aload_n 0, 1) := by decide +kernel
theorem dX11_reason_7 : decode cX11_reason 7 = .ok (.iload_n 2, 1) := by decide +kernel
theorem dX11_reason_8 : decode cX11_reason 8 = .ok (.ifCond .ge 7, 3) := by decide +kernel
theorem dX11_reason_11 : decode cX11_reason 11 = .ok (.iconst 1, 1) := by decide +kernel
theorem dX11_reason_12 : decode cX11_reason 12 = .ok (.goto 4, 3) := by decide +kernel
theorem dX11_reason_15 : decode cX11_reason 15 = .ok (.iconst 0, 1) := by decide +kernel
theorem dX11_reason_16 : decode cX11_reason 16 = .ok (.putfield 25, 3) := by decide +kernel
theorem dX11_reason_19 : decode cX11_reason 19 = .ok (.aload_n 0, 1) := by decide +kernel
theorem dX11_reason_20 : decode cX11_reason 20 = .ok (.getfield 25, 3) := by decide +kernel
theorem dX11_reason_23 : decode cX11_reason 23 = .ok (.ifCond .ne 17, 3) := by decide +kernel
theorem dX11_reason_26 : decode cX11_reason 26 = .ok (.aload_n 0, 1) := by decide +kernel
theorem dX11_reason_27 : decode cX11_reason 27 = .ok (.iload_n 2, 1) := by decide +kernel
theorem dX11_reason_28 : decode cX11_reason 28 = .ok (.invokevirtual 207, 3) := by decide +kernel
theorem dX11_reason_31 : decode cX11_reason 31 = .ok (.aload_n 0, 1) := by decide +kernel
theorem dX11_reason_32 : decode cX11_reason 32 = .ok (.iload_n 2, 1) := by decide +kernel
theorem dX11_reason_33 : decode cX11_reason 33 = .ok (.iconst 3, 1) := by decide +kernel
theorem dX11_reason_34 : decode cX11_reason 34 = .ok (.invokevirtual 33, 3) := by decide +kernel
theorem dX11_reason_37 : decode cX11_reason 37 = .ok (.if_icmp .ne 5, 3) := by decide +kernel
theorem dX11_reason_40 : decode cX11_reason 40 = .ok (.iconst 0, 1) := by decide +kernel
theorem dX11_reason_41 : decode cX11_reason 41 = .ok (.ireturn, 1) := by decide +kernel
theorem dX11_reason_42 : decode cX11_reason 42 = .ok (.aload_n 0, 1) := by decide +kernel
theorem dX11_reason_43 : decode cX11_reason 43 = .ok (.getfield 115, 3) := by decide +kernel
theorem dX11_reason_46 : decode cX11_reason 46 = .ok (.ifCond .ne 5, 3) := by decide +kernel
theorem dX11_reason_49 : decode cX11_reason 49 = .ok (.iconst 1, 1) := by decide +kernel
theorem dX11_reason_50 : decode cX11_reason 50 = .ok (.ireturn, 1) := by decide +kernel
theorem dX11_reason_51 : decode cX11_reason 51 = .ok (.aload_n 0, 1) := by decide +kernel
theorem dX11_reason_52 : decode cX11_reason 52 = .ok (.iload_n 2, 1) := by decide +kernel
theorem dX11_reason_53 : decode cX11_reason 53 = .ok (.aload_n 0, 1) := by decide +kernel
theorem dX11_reason_54 : decode cX11_reason 54 = .ok (.getfield 127, 3) := by decide +kernel
theorem dX11_reason_57 : decode cX11_reason 57 = .ok (.invokevirtual 108, 3) := by decide +kernel
theorem dX11_reason_60 : decode cX11_reason 60 = .ok (.ifCond .eq 7, 3) := by decide +kernel
theorem dX11_reason_63 : decode cX11_reason 63 = .ok (.iconst 3, 1) := by decide +kernel
theorem dX11_reason_64 : decode cX11_reason 64 = .ok (.goto 4, 3) := by decide +kernel
theorem dX11_reason_67 : decode cX11_reason 67 = .ok (.iconst 2, 1) := by decide +kernel
theorem dX11_reason_68 : decode cX11_reason 68 = .ok (.ireturn, 1) := by decide +kernel
theorem dX11_gainBy_0 : decode cX11_gainBy 0 = .ok (.aload_n 0, 1) := by decide +kernel
theorem dX11_gainBy_1 : decode cX11_gainBy 1 = .ok (.iload_n 1, 1) := by decide +kernel
theorem dX11_gainBy_2 : decode cX11_gainBy 2 = .ok (.iload_n 2, 1) := by decide +kernel
theorem dX11_gainBy_3 : decode cX11_gainBy 3 = .ok (.iconst 1, 1) := by decide +kernel
theorem dX11_gainBy_4 : decode cX11_gainBy 4 = .ok (.invokevirtual 93, 3) := by decide +kernel
theorem dX11_gainBy_7 : decode cX11_gainBy 7 = .ok (.pop, 1) := by decide +kernel
theorem dX11_gainBy_8 : decode cX11_gainBy 8 = .ok (.aload_n 0, 1) := by decide +kernel
theorem dX11_gainBy_9 : decode cX11_gainBy 9 = .ok (.invokevirtual 157, 3) := by decide +kernel
theorem dX11_gainBy_12 : decode cX11_gainBy 12 = .ok (.aload_n 0, 1) := by decide +kernel
theorem dX11_gainBy_13 : decode cX11_gainBy 13 = .ok (.iload_n 1, 1) := by decide +kernel
theorem dX11_gainBy_14 : decode cX11_gainBy 14 = .ok (.invokevirtual 139, 3) := by decide +kernel
theorem dX11_gainBy_17 : decode cX11_gainBy 17 = .ok (.istore_n 3, 1) := by decide +kernel
theorem dX11_gainBy_18 : decode cX11_gainBy 18 = .ok (.aload_n 0, 1) := by decide +kernel
theorem dX11_gainBy_19 : decode cX11_gainBy 19 = .ok (.getfield 7, 3) := by decide +kernel
theorem dX11_gainBy_22 : decode cX11_gainBy 22 = .ok (.iconst 1, 1) := by decide +kernel
theorem dX11_gainBy_23 : decode cX11_gainBy 23 = .ok (.dup2, 1) := by decide +kernel
theorem dX11_gainBy_24 : decode cX11_gainBy 24 = .ok (.iaload, 1) := by decide +kernel
theorem dX11_gainBy_25 : decode cX11_gainBy 25 = .ok (.iconst 1, 1) := by decide +kernel
theorem dX11_gainBy_26 : decode cX11_gainBy 26 = .ok (.isub, 1) := by decide +kernel
theorem dX11_gainBy_27 : decode cX11_gainBy 27 = .ok (.iastore, 1) := by decide +kernel
theorem dX11_gainBy_28 : decode cX11_gainBy 28 = .ok (.aload_n 0, 1) := by decide +kernel
theorem dX11_gainBy_29 : decode cX11_gainBy 29 = .ok (.getfield 7, 3) := by decide +kernel
theorem dX11_gainBy_32 : decode cX11_gainBy 32 = .ok (.iconst 5, 1) := by decide +kernel
theorem dX11_gainBy_33 : decode cX11_gainBy 33 = .ok (.dup2, 1) := by decide +kernel
theorem dX11_gainBy_34 : decode cX11_gainBy 34 = .ok (.iaload, 1) := by decide +kernel
theorem dX11_gainBy_35 : decode cX11_gainBy 35 = .ok (.iconst 1, 1) := by decide +kernel
theorem dX11_gainBy_36 : decode cX11_gainBy 36 = .ok (.isub, 1) := by decide +kernel
theorem dX11_gainBy_37 : decode cX11_gainBy 37 = .ok (.iastore, 1) := by decide +kernel
theorem dX11_gainBy_38 : decode cX11_gainBy 38 = .ok (.iload_n 3, 1) := by decide +kernel
theorem dX11_gainBy_39 : decode cX11_gainBy 39 = .ok (.ireturn, 1) := by decide +kernel
theorem dX11_gainWith_0 : decode cX11_gainWith 0 = .ok (.aload_n 0, 1) := by decide +kernel
theorem dX11_gainWith_1 : decode cX11_gainWith 1 = .ok (.aload_n 0, 1) := by decide +kernel
theorem dX11_gainWith_2 : decode cX11_gainWith 2 = .ok (.iload_n 1, 1) := by decide +kernel
theorem dX11_gainWith_3 : decode cX11_gainWith 3 = .ok (.invokevirtual 60, 3) := by decide +kernel
theorem dX11_gainWith_6 : decode cX11_gainWith 6 = .ok (.ifCond .ne 7, 3) := by decide +kernel
theorem dX11_gainWith_9 : decode cX11_gainWith 9 = .ok (.iconst 1, 1) := by decide +kernel
theorem dX11_gainWith_10 : decode cX11_gainWith 10 = .ok (.goto 18, 3) := by decide +kernel
theorem dX11_gainWith_13 : decode cX11_gainWith 13 = .ok (.iload_n 2, 1) := by decide +kernel
theorem dX11_gainWith_14 : decode cX11_gainWith 14 = .ok (.iconst 1, 1) := by decide +kernel
theorem dX11_gainWith_15 : decode cX11_gainWith 15 = .ok (.bipush 120, 2) := by decide +kernel
theorem dX11_gainWith_17 : decode cX11_gainWith 17 = .ok (.invokestatic 29, 3) := by decide +kernel
theorem dX11_gainWith_20 : decode cX11_gainWith 20 = .ok (.ifCond .eq 7, 3) := by decide +kernel
theorem dX11_gainWith_23 : decode cX11_gainWith 23 = .ok (.iconst 0, 1) := by decide +kernel
theorem dX11_gainWith_24 : decode cX11_gainWith 24 = .ok (.goto 4, 3) := by decide +kernel
theorem dX11_gainWith_27 : decode cX11_gainWith 27 = .ok (.iconst 2, 1) := by decide +kernel
theorem dX11_gainWith_28 : decode cX11_gainWith 28 = .ok (.putfield 25, 3) := by decide +kernel
theorem dX11_gainWith_31 : decode cX11_gainWith 31 = .ok (.aload_n 0, 1) := by decide +kernel
theorem dX11_gainWith_32 : decode cX11_gainWith 32 = .ok (.getfield 25, 3) := by decide +kernel
theorem dX11_gainWith_35 : decode cX11_gainWith 35 = .ok (.ifCond .eq 5, 3) := by decide +kernel
theorem dX11_gainWith_38 : decode cX11_gainWith 38 = .ok (.iconst 0, 1) := by decide +kernel
theorem dX11_gainWith_39 : decode cX11_gainWith 39 = .ok (.ireturn, 1) := by decide +kernel
theorem dX11_gainWith_40 : decode cX11_gainWith 40 = .ok (.aload_n 0, 1) := by decide +kernel
theorem dX11_gainWith_41 : decode cX11_gainWith 41 = .ok (.getfield 7, 3) := by decide +kernel
theorem dX11_gainWith_44 : decode cX11_gainWith 44 = .ok (.iconst 1, 1) := by decide +kernel
theorem dX11_gainWith_45 : decode cX11_gainWith 45 = .ok (.iaload, 1) := by decide +kernel
theorem dX11_gainWith_46 : decode cX11_gainWith 46 = .ok (.bipush 20, 2) := by decide +kernel
theorem dX11_gainWith_48 : decode cX11_gainWith 48 = .ok (.if_icmp .ne 9, 3) := by decide +kernel
theorem dX11_gainWith_51 : decode cX11_gainWith 51 = .ok (.sipush (-10000), 3) := by decide +kernel
theorem dX11_gainWith_54 : decode cX11_gainWith 54 = .ok (.goto 9, 3) := by decide +kernel
theorem dX11_gainWith_57 : decode cX11_gainWith 57 = .ok (.aload_n 0, 1) := by decide +kernel
theorem dX11_gainWith_58 : decode cX11_gainWith 58 = .ok (.iload_n 1, 1) := by decide +kernel
theorem dX11_gainWith_59 : decode cX11_gainWith 59 = .ok (.iload_n 2, 1) := by decide +kernel
theorem dX11_gainWith_60 : decode cX11_gainWith 60 = .ok (.invokevirtual 210, 3) := by decide +kernel
theorem dX11_gainWith_63 : decode cX11_gainWith 63 = .ok (.ireturn, 1) := by decide +kernel
theorem dX11_bestShade_0 : decode cX11_bestShade 0 = .ok (.aload_n 0, 1) := by decide +kernel
theorem dX11_bestShade_1 : decode cX11_bestShade 1 = .ok (.aload_n 0, 1) := by decide +kernel
theorem dX11_bestShade_2 : decode cX11_bestShade 2 = .ok (.iload_n 1, 1) := by decide +kernel
theorem dX11_bestShade_3 : decode cX11_bestShade 3 = .ok (.invokevirtual 60, 3) := by decide +kernel
theorem dX11_bestShade_6 : decode cX11_bestShade 6 = .ok (.ifCond .eq 7, 3) := by decide +kernel
theorem dX11_bestShade_9 : decode cX11_bestShade 9 = .ok (.iconst 0, 1) := by decide +kernel
theorem dX11_bestShade_10 : decode cX11_bestShade 10 = .ok (.goto 4, 3) := by decide +kernel
theorem dX11_bestShade_13 : decode cX11_bestShade 13 = .ok (.iconst 1, 1) := by decide +kernel
theorem dX11_bestShade_14 : decode cX11_bestShade 14 = .ok (.putfield 25, 3) := by decide +kernel
theorem dX11_bestShade_17 : decode cX11_bestShade 17 = .ok (.aload_n 0, 1) := by decide +kernel
theorem dX11_bestShade_18 : decode cX11_bestShade 18 = .ok (.getfield 25, 3) := by decide +kernel
theorem dX11_bestShade_21 : decode cX11_bestShade 21 = .ok (.ifCond .eq 5, 3) := by decide +kernel
theorem dX11_bestShade_24 : decode cX11_bestShade 24 = .ok (.iconst 0, 1) := by decide +kernel
theorem dX11_bestShade_25 : decode cX11_bestShade 25 = .ok (.ireturn, 1) := by decide +kernel
theorem dX11_bestShade_26 : decode cX11_bestShade 26 = .ok (.aload_n 0, 1) := by decide +kernel
theorem dX11_bestShade_27 : decode cX11_bestShade 27 = .ok (.getfield 7, 3) := by decide +kernel
theorem dX11_bestShade_30 : decode cX11_bestShade 30 = .ok (.iconst 1, 1) := by decide +kernel
theorem dX11_bestShade_31 : decode cX11_bestShade 31 = .ok (.iaload, 1) := by decide +kernel
theorem dX11_bestShade_32 : decode cX11_bestShade 32 = .ok (.bipush 20, 2) := by decide +kernel
theorem dX11_bestShade_34 : decode cX11_bestShade 34 = .ok (.if_icmp .ne 7, 3) := by decide +kernel
theorem dX11_bestShade_37 : decode cX11_bestShade 37 = .ok (.sipush (-10000), 3) := by decide +kernel
theorem dX11_bestShade_40 : decode cX11_bestShade 40 = .ok (.ireturn, 1) := by decide +kernel
theorem dX11_bestShade_41 : decode cX11_bestShade 41 = .ok (.iconst 0, 1) := by decide +kernel
theorem dX11_bestShade_42 : decode cX11_bestShade 42 = .ok (.istore_n 2, 1) := by decide +kernel
theorem dX11_bestShade_43 : decode cX11_bestShade 43 = .ok (.aload_n 0, 1) := by decide +kernel
theorem dX11_bestShade_44 : decode cX11_bestShade 44 = .ok (.iload_n 1, 1) := by decide +kernel
theorem dX11_bestShade_45 : decode cX11_bestShade 45 = .ok (.aload_n 0, 1) := by decide +kernel
theorem dX11_bestShade_46 : decode cX11_bestShade 46 = .ok (.iload_n 1, 1) := by decide +kernel
theorem dX11_bestShade_47 : decode cX11_bestShade 47 = .ok (.iconst 0, 1) := by decide +kernel
theorem dX11_bestShade_48 : decode cX11_bestShade 48 = .ok (.invokevirtual 67, 3) := by decide +kernel
theorem dX11_bestShade_51 : decode cX11_bestShade 51 = .ok (.invokevirtual 210, 3) := by decide +kernel
theorem dX11_bestShade_54 : decode cX11_bestShade 54 = .ok (.istore_n 3, 1) := by decide +kernel
theorem dX11_bestShade_55 : decode cX11_bestShade 55 = .ok (.iconst 1, 1) := by decide +kernel
theorem dX11_bestShade_56 : decode cX11_bestShade 56 = .ok (.istore 4, 2) := by decide +kernel
theorem dX11_bestShade_58 : decode cX11_bestShade 58 = .ok (.iload 4, 2) := by decide +kernel
theorem dX11_bestShade_60 : decode cX11_bestShade 60 = .ok (.bipush 50, 2) := by decide +kernel
theorem dX11_bestShade_62 : decode cX11_bestShade 62 = .ok (.if_icmp .gt 49, 3) := by decide +kernel
theorem dX11_bestShade_65 : decode cX11_bestShade 65 = .ok (.aload_n 0, 1) := by decide +kernel
theorem dX11_bestShade_66 : decode cX11_bestShade 66 = .ok (.iload_n 1, 1) := by decide +kernel
theorem dX11_bestShade_67 : decode cX11_bestShade 67 = .ok (.aload_n 0, 1) := by decide +kernel
theorem dX11_bestShade_68 : decode cX11_bestShade 68 = .ok (.iload_n 1, 1) := by decide +kernel
theorem dX11_bestShade_69 : decode cX11_bestShade 69 = .ok (.iload 4, 2) := by decide +kernel
theorem dX11_bestShade_71 : decode cX11_bestShade 71 = .ok (.invokevirtual 67, 3) := by decide +kernel
theorem dX11_bestShade_74 : decode cX11_bestShade 74 = .ok (.invokevirtual 210, 3) := by decide +kernel
theorem dX11_bestShade_77 : decode cX11_bestShade 77 = .ok (.istore 5, 2) := by decide +kernel
theorem dX11_bestShade_79 : decode cX11_bestShade 79 = .ok (.iload 5, 2) := by decide +kernel
theorem dX11_bestShade_81 : decode cX11_bestShade 81 = .ok (.iload_n 3, 1) := by decide +kernel
theorem dX11_bestShade_82 : decode cX11_bestShade 82 = .ok (.if_icmp .le 8, 3) := by decide +kernel
theorem dX11_bestShade_85 : decode cX11_bestShade 85 = .ok (.iload 4, 2) := by decide +kernel
theorem dX11_bestShade_87 : decode cX11_bestShade 87 = .ok (.goto 4, 3) := by decide +kernel
theorem dX11_bestShade_90 : decode cX11_bestShade 90 = .ok (.iload_n 2, 1) := by decide +kernel
theorem dX11_bestShade_91 : decode cX11_bestShade 91 = .ok (.istore_n 2, 1) := by decide +kernel
theorem dX11_bestShade_92 : decode cX11_bestShade 92 = .ok (.iload 5, 2) := by decide +kernel
theorem dX11_bestShade_94 : decode cX11_bestShade 94 = .ok (.iload_n 3, 1) := by decide +kernel
theorem dX11_bestShade_95 : decode cX11_bestShade 95 = .ok (.if_icmp .le 8, 3) := by decide +kernel
theorem dX11_bestShade_98 : decode cX11_bestShade 98 = .ok (.iload 5, 2) := by decide +kernel
theorem dX11_bestShade_100 : decode cX11_bestShade 100 = .ok (.goto 4, 3) := by decide +kernel
theorem dX11_bestShade_103 : decode cX11_bestShade 103 = .ok (.iload_n 3, 1) := by decide +kernel
theorem dX11_bestShade_104 : decode cX11_bestShade 104 = .ok (.istore_n 3, 1) := by decide +kernel
theorem dX11_bestShade_105 : decode cX11_bestShade 105 = .ok (.iinc 4 1, 3) := by decide +kernel
theorem dX11_bestShade_108 : decode cX11_bestShade 108 = .ok (.goto (-50), 3) := by decide +kernel
theorem dX11_bestShade_111 : decode cX11_bestShade 111 = .ok (.iload_n 2, 1) := by decide +kernel
theorem dX11_bestShade_112 : decode cX11_bestShade 112 = .ok (.ireturn, 1) := by decide +kernel
theorem dX11_bestSplit_0 : decode cX11_bestSplit 0 = .ok (.aload_n 0, 1) := by decide +kernel
theorem dX11_bestSplit_1 : decode cX11_bestSplit 1 = .ok (.aload_n 0, 1) := by decide +kernel
theorem dX11_bestSplit_2 : decode cX11_bestSplit 2 = .ok (.iload_n 1, 1) := by decide +kernel
theorem dX11_bestSplit_3 : decode cX11_bestSplit 3 = .ok (.invokevirtual 60, 3) := by decide +kernel
theorem dX11_bestSplit_6 : decode cX11_bestSplit 6 = .ok (.ifCond .eq 7, 3) := by decide +kernel
theorem dX11_bestSplit_9 : decode cX11_bestSplit 9 = .ok (.iconst 0, 1) := by decide +kernel
theorem dX11_bestSplit_10 : decode cX11_bestSplit 10 = .ok (.goto 4, 3) := by decide +kernel
theorem dX11_bestSplit_13 : decode cX11_bestSplit 13 = .ok (.iconst 1, 1) := by decide +kernel
theorem dX11_bestSplit_14 : decode cX11_bestSplit 14 = .ok (.putfield 25, 3) := by decide +kernel
theorem dX11_bestSplit_17 : decode cX11_bestSplit 17 = .ok (.aload_n 0, 1) := by decide +kernel
theorem dX11_bestSplit_18 : decode cX11_bestSplit 18 = .ok (.getfield 25, 3) := by decide +kernel
theorem dX11_bestSplit_21 : decode cX11_bestSplit 21 = .ok (.ifCond .eq 5, 3) := by decide +kernel
theorem dX11_bestSplit_24 : decode cX11_bestSplit 24 = .ok (.iconst 0, 1) := by decide +kernel
theorem dX11_bestSplit_25 : decode cX11_bestSplit 25 = .ok (.ireturn, 1) := by decide +kernel
theorem dX11_bestSplit_26 : decode cX11_bestSplit 26 = .ok (.aload_n 0, 1) := by decide +kernel
theorem dX11_bestSplit_27 : decode cX11_bestSplit 27 = .ok (.getfield 7, 3) := by decide +kernel
theorem dX11_bestSplit_30 : decode cX11_bestSplit 30 = .ok (.iconst 3, 1) := by decide +kernel
theorem dX11_bestSplit_31 : decode cX11_bestSplit 31 = .ok (.iaload, 1) := by decide +kernel
theorem dX11_bestSplit_32 : decode cX11_bestSplit 32 = .ok (.istore_n 2, 1) := by decide +kernel
theorem dX11_bestSplit_33 : decode cX11_bestSplit 33 = .ok (.sipush (-10000), 3) := by decide +kernel
theorem dX11_bestSplit_36 : decode cX11_bestSplit 36 = .ok (.istore_n 3, 1) := by decide +kernel
theorem dX11_bestSplit_37 : decode cX11_bestSplit 37 = .ok (.iconst 0, 1) := by decide +kernel
theorem dX11_bestSplit_38 : decode cX11_bestSplit 38 = .ok (.istore 4, 2) := by decide +kernel
theorem dX11_bestSplit_40 : decode cX11_bestSplit 40 = .ok (.iconst 0, 1) := by decide +kernel
theorem dX11_bestSplit_41 : decode cX11_bestSplit 41 = .ok (.istore 5, 2) := by decide +kernel
theorem dX11_bestSplit_43 : decode cX11_bestSplit 43 = .ok (.iload 5, 2) := by decide +kernel
theorem dX11_bestSplit_45 : decode cX11_bestSplit 45 = .ok (.bipush 10, 2) := by decide +kernel
theorem dX11_bestSplit_47 : decode cX11_bestSplit 47 = .ok (.if_icmp .gt 56, 3) := by decide +kernel
theorem dX11_bestSplit_50 : decode cX11_bestSplit 50 = .ok (.aload_n 0, 1) := by decide +kernel
theorem dX11_bestSplit_51 : decode cX11_bestSplit 51 = .ok (.getfield 7, 3) := by decide +kernel
theorem dX11_bestSplit_54 : decode cX11_bestSplit 54 = .ok (.iconst 3, 1) := by decide +kernel
theorem dX11_bestSplit_55 : decode cX11_bestSplit 55 = .ok (.iload 5, 2) := by decide +kernel
theorem dX11_bestSplit_57 : decode cX11_bestSplit 57 = .ok (.iastore, 1) := by decide +kernel
theorem dX11_bestSplit_58 : decode cX11_bestSplit 58 = .ok (.aload_n 0, 1) := by decide +kernel
theorem dX11_bestSplit_59 : decode cX11_bestSplit 59 = .ok (.invokevirtual 157, 3) := by decide +kernel
theorem dX11_bestSplit_62 : decode cX11_bestSplit 62 = .ok (.aload_n 0, 1) := by decide +kernel
theorem dX11_bestSplit_63 : decode cX11_bestSplit 63 = .ok (.iload_n 1, 1) := by decide +kernel
theorem dX11_bestSplit_64 : decode cX11_bestSplit 64 = .ok (.invokevirtual 139, 3) := by decide +kernel
theorem dX11_bestSplit_67 : decode cX11_bestSplit 67 = .ok (.istore 6, 2) := by decide +kernel
theorem dX11_bestSplit_69 : decode cX11_bestSplit 69 = .ok (.aload_n 0, 1) := by decide +kernel
theorem dX11_bestSplit_70 : decode cX11_bestSplit 70 = .ok (.getfield 115, 3) := by decide +kernel
theorem dX11_bestSplit_73 : decode cX11_bestSplit 73 = .ok (.ifCond .le 24, 3) := by decide +kernel
theorem dX11_bestSplit_76 : decode cX11_bestSplit 76 = .ok (.iload_n 3, 1) := by decide +kernel
theorem dX11_bestSplit_77 : decode cX11_bestSplit 77 = .ok (.sipush (-10000), 3) := by decide +kernel
theorem dX11_bestSplit_80 : decode cX11_bestSplit 80 = .ok (.if_icmp .eq 10, 3) := by decide +kernel
theorem dX11_bestSplit_83 : decode cX11_bestSplit 83 = .ok (.iload 6, 2) := by decide +kernel
theorem dX11_bestSplit_85 : decode cX11_bestSplit 85 = .ok (.iload 4, 2) := by decide +kernel
theorem dX11_bestSplit_87 : decode cX11_bestSplit 87 = .ok (.if_icmp .le 10, 3) := by decide +kernel
theorem dX11_bestSplit_90 : decode cX11_bestSplit 90 = .ok (.iload 5, 2) := by decide +kernel
theorem dX11_bestSplit_92 : decode cX11_bestSplit 92 = .ok (.istore_n 3, 1) := by decide +kernel
theorem dX11_bestSplit_93 : decode cX11_bestSplit 93 = .ok (.iload 6, 2) := by decide +kernel
theorem dX11_bestSplit_95 : decode cX11_bestSplit 95 = .ok (.istore 4, 2) := by decide +kernel
theorem dX11_bestSplit_97 : decode cX11_bestSplit 97 = .ok (.iinc 5 1, 3) := by decide +kernel
theorem dX11_bestSplit_100 : decode cX11_bestSplit 100 = .ok (.goto (-57), 3) := by decide +kernel
theorem dX11_bestSplit_103 : decode cX11_bestSplit 103 = .ok (.aload_n 0, 1) := by decide +kernel
theorem dX11_bestSplit_104 : decode cX11_bestSplit 104 = .ok (.getfield 7, 3) := by decide +kernel
theorem dX11_bestSplit_107 : decode cX11_bestSplit 107 = .ok (.iconst 3, 1) := by decide +kernel
theorem dX11_bestSplit_108 : decode cX11_bestSplit 108 = .ok (.iload_n 2, 1) := by decide +kernel
theorem dX11_bestSplit_109 : decode cX11_bestSplit 109 = .ok (.iastore, 1) := by decide +kernel
theorem dX11_bestSplit_110 : decode cX11_bestSplit 110 = .ok (.iload_n 3, 1) := by decide +kernel
theorem dX11_bestSplit_111 : decode cX11_bestSplit 111 = .ok (.ireturn, 1) := by decide +kernel
theorem dX11_goneIn_0 : decode cX11_goneIn 0 = .ok (.aload_n 0, 1) := by decide +kernel
theorem dX11_goneIn_1 : decode cX11_goneIn 1 = .ok (.aload_n 0, 1) := by decide +kernel
theorem dX11_goneIn_2 : decode cX11_goneIn 2 = .ok (.iload_n 1, 1) := by decide +kernel
theorem dX11_goneIn_3 : decode cX11_goneIn 3 = .ok (.invokevirtual 99, 3) := by decide +kernel
theorem dX11_goneIn_6 : decode cX11_goneIn 6 = .ok (.ifCond .ge 7, 3) := by decide +kernel
theorem dX11_goneIn_9 : decode cX11_goneIn 9 = .ok (.iconst 1, 1) := by decide +kernel
theorem dX11_goneIn_10 : decode cX11_goneIn 10 = .ok (.goto 4, 3) := by decide +kernel
theorem dX11_goneIn_13 : decode cX11_goneIn 13 = .ok (.iconst 0, 1) := by decide +kernel
theorem dX11_goneIn_14 : decode cX11_goneIn 14 = .ok (.putfield 25, 3) := by decide +kernel
theorem dX11_goneIn_17 : decode cX11_goneIn 17 = .ok (.aload_n 0, 1) := by decide +kernel
theorem dX11_goneIn_18 : decode cX11_goneIn 18 = .ok (.getfield 25, 3) := by decide +kernel
theorem dX11_goneIn_21 : decode cX11_goneIn 21 = .ok (.ifCond .eq 5, 3) := by decide +kernel
theorem dX11_goneIn_24 : decode cX11_goneIn 24 = .ok (.iconst 0, 1) := by decide +kernel
theorem dX11_goneIn_25 : decode cX11_goneIn 25 = .ok (.ireturn, 1) := by decide +kernel
theorem dX11_goneIn_26 : decode cX11_goneIn 26 = .ok (.aload_n 0, 1) := by decide +kernel
theorem dX11_goneIn_27 : decode cX11_goneIn 27 = .ok (.iconst 4, 1) := by decide +kernel
theorem dX11_goneIn_28 : decode cX11_goneIn 28 = .ok (.invokevirtual 40, 3) := by decide +kernel
theorem dX11_goneIn_31 : decode cX11_goneIn 31 = .ok (.iconst 0, 1) := by decide +kernel
theorem dX11_goneIn_32 : decode cX11_goneIn 32 = .ok (.istore_n 2, 1) := by decide +kernel
theorem dX11_goneIn_33 : decode cX11_goneIn 33 = .ok (.aload_n 0, 1) := by decide +kernel
theorem dX11_goneIn_34 : decode cX11_goneIn 34 = .ok (.iload_n 1, 1) := by decide +kernel
theorem dX11_goneIn_35 : decode cX11_goneIn 35 = .ok (.invokevirtual 99, 3) := by decide +kernel
theorem dX11_goneIn_38 : decode cX11_goneIn 38 = .ok (.ifCond .lt 14, 3) := by decide +kernel
theorem dX11_goneIn_41 : decode cX11_goneIn 41 = .ok (.aload_n 0, 1) := by decide +kernel
theorem dX11_goneIn_42 : decode cX11_goneIn 42 = .ok (.invokevirtual 179, 3) := by decide +kernel
theorem dX11_goneIn_45 : decode cX11_goneIn 45 = .ok (.pop, 1) := by decide +kernel
theorem dX11_goneIn_46 : decode cX11_goneIn 46 = .ok (.iinc 2 1, 3) := by decide +kernel
theorem dX11_goneIn_49 : decode cX11_goneIn 49 = .ok (.goto (-16), 3) := by decide +kernel
theorem dX11_goneIn_52 : decode cX11_goneIn 52 = .ok (.aload_n 0, 1) := by decide +kernel
theorem dX11_goneIn_53 : decode cX11_goneIn 53 = .ok (.iconst 4, 1) := by decide +kernel
theorem dX11_goneIn_54 : decode cX11_goneIn 54 = .ok (.invokevirtual 44, 3) := by decide +kernel
theorem dX11_goneIn_57 : decode cX11_goneIn 57 = .ok (.iload_n 2, 1) := by decide +kernel
theorem dX11_goneIn_58 : decode cX11_goneIn 58 = .ok (.ireturn, 1) := by decide +kernel
theorem dX11_type_0 : decode cX11_type 0 = .ok (.aload_n 0, 1) := by decide +kernel
theorem dX11_type_1 : decode cX11_type 1 = .ok (.iload_n 1, 1) := by decide +kernel
theorem dX11_type_2 : decode cX11_type 2 = .ok (.iconst 0, 1) := by decide +kernel
theorem dX11_type_3 : decode cX11_type 3 = .ok (.bipush 127, 2) := by decide +kernel
theorem dX11_type_5 : decode cX11_type 5 = .ok (.invokestatic 29, 3) := by decide +kernel
theorem dX11_type_8 : decode cX11_type 8 = .ok (.ifCond .ne 7, 3) := by decide +kernel
theorem dX11_type_11 : decode cX11_type 11 = .ok (.iconst 1, 1) := by decide +kernel
theorem dX11_type_12 : decode cX11_type 12 = .ok (.goto 18, 3) := by decide +kernel
theorem dX11_type_15 : decode cX11_type 15 = .ok (.aload_n 0, 1) := by decide +kernel
theorem dX11_type_16 : decode cX11_type 16 = .ok (.getfield 201, 3) := by decide +kernel
theorem dX11_type_19 : decode cX11_type 19 = .ok (.sipush 150, 3) := by decide +kernel
theorem dX11_type_22 : decode cX11_type 22 = .ok (.if_icmp .ge 7, 3) := by decide +kernel
theorem dX11_type_25 : decode cX11_type 25 = .ok (.iconst 0, 1) := by decide +kernel
theorem dX11_type_26 : decode cX11_type 26 = .ok (.goto 4, 3) := by decide +kernel
theorem dX11_type_29 : decode cX11_type 29 = .ok (.iconst 2, 1) := by decide +kernel
theorem dX11_type_30 : decode cX11_type 30 = .ok (.putfield 25, 3) := by decide +kernel
theorem dX11_type_33 : decode cX11_type 33 = .ok (.aload_n 0, 1) := by decide +kernel
theorem dX11_type_34 : decode cX11_type 34 = .ok (.getfield 25, 3) := by decide +kernel
theorem dX11_type_37 : decode cX11_type 37 = .ok (.ifCond .eq 5, 3) := by decide +kernel
theorem dX11_type_40 : decode cX11_type 40 = .ok (.iconst 0, 1) := by decide +kernel
theorem dX11_type_41 : decode cX11_type 41 = .ok (.ireturn, 1) := by decide +kernel
theorem dX11_type_42 : decode cX11_type 42 = .ok (.aload_n 0, 1) := by decide +kernel
theorem dX11_type_43 : decode cX11_type 43 = .ok (.getfield 16, 3) := by decide +kernel
theorem dX11_type_46 : decode cX11_type 46 = .ok (.aload_n 0, 1) := by decide +kernel
theorem dX11_type_47 : decode cX11_type 47 = .ok (.getfield 201, 3) := by decide +kernel
theorem dX11_type_50 : decode cX11_type 50 = .ok (.iload_n 1, 1) := by decide +kernel
theorem dX11_type_51 : decode cX11_type 51 = .ok (.iastore, 1) := by decide +kernel
theorem dX11_type_52 : decode cX11_type 52 = .ok (.aload_n 0, 1) := by decide +kernel
theorem dX11_type_53 : decode cX11_type 53 = .ok (.dup, 1) := by decide +kernel
theorem dX11_type_54 : decode cX11_type 54 = .ok (.getfield 201, 3) := by decide +kernel
theorem dX11_type_57 : decode cX11_type 57 = .ok (.iconst 1, 1) := by decide +kernel
theorem dX11_type_58 : decode cX11_type 58 = .ok (.iadd, 1) := by decide +kernel
theorem dX11_type_59 : decode cX11_type 59 = .ok (.putfield 201, 3) := by decide +kernel
theorem dX11_type_62 : decode cX11_type 62 = .ok (.aload_n 0, 1) := by decide +kernel
theorem dX11_type_63 : decode cX11_type 63 = .ok (.getfield 201, 3) := by decide +kernel
theorem dX11_type_66 : decode cX11_type 66 = .ok (.ireturn, 1) := by decide +kernel
theorem dX11_clearCommands_0 : decode cX11_clearCommands 0 = .ok (.aload_n 0, 1) := by decide +kernel
theorem dX11_clearCommands_1 : decode cX11_clearCommands 1 = .ok (.iconst 0, 1) := by decide +kernel
theorem dX11_clearCommands_2 : decode cX11_clearCommands 2 = .ok (.putfield 25, 3) := by decide +kernel
theorem dX11_clearCommands_5 : decode cX11_clearCommands 5 = .ok (.aload_n 0, 1) := by decide +kernel
theorem dX11_clearCommands_6 : decode cX11_clearCommands 6 = .ok (.getfield 201, 3) := by decide +kernel
theorem dX11_clearCommands_9 : decode cX11_clearCommands 9 = .ok (.istore_n 1, 1) := by decide +kernel
theorem dX11_clearCommands_10 : decode cX11_clearCommands 10 = .ok (.aload_n 0, 1) := by decide +kernel
theorem dX11_clearCommands_11 : decode cX11_clearCommands 11 = .ok (.iconst 0, 1) := by decide +kernel
theorem dX11_clearCommands_12 : decode cX11_clearCommands 12 = .ok (.putfield 201, 3) := by decide +kernel
theorem dX11_clearCommands_15 : decode cX11_clearCommands 15 = .ok (.iload_n 1, 1) := by decide +kernel
theorem dX11_clearCommands_16 : decode cX11_clearCommands 16 = .ok (.ireturn, 1) := by decide +kernel
theorem dX11_isHere_0 : decode cX11_isHere 0 = .ok (.aload_n 0, 1) := by decide +kernel
theorem dX11_isHere_1 : decode cX11_isHere 1 = .ok (.getfield 213, 3) := by decide +kernel
theorem dX11_isHere_4 : decode cX11_isHere 4 = .ok (.aload_n 0, 1) := by decide +kernel
theorem dX11_isHere_5 : decode cX11_isHere 5 = .ok (.getfield 201, 3) := by decide +kernel
theorem dX11_isHere_8 : decode cX11_isHere 8 = .ok (.if_icmp .ge 24, 3) := by decide +kernel
theorem dX11_isHere_11 : decode cX11_isHere 11 = .ok (.aload_n 0, 1) := by decide +kernel
theorem dX11_isHere_12 : decode cX11_isHere 12 = .ok (.getfield 16, 3) := by decide +kernel
theorem dX11_isHere_15 : decode cX11_isHere 15 = .ok (.aload_n 0, 1) := by decide +kernel
theorem dX11_isHere_16 : decode cX11_isHere 16 = .ok (.getfield 213, 3) := by decide +kernel
theorem dX11_isHere_19 : decode cX11_isHere 19 = .ok (.iaload, 1) := by decide +kernel
theorem dX11_isHere_20 : decode cX11_isHere 20 = .ok (.iload_n 1, 1) := by decide +kernel
theorem dX11_isHere_21 : decode cX11_isHere 21 = .ok (.iload_n 2, 1) := by decide +kernel
theorem dX11_isHere_22 : decode cX11_isHere 22 = .ok (.invokestatic 29, 3) := by decide +kernel
theorem dX11_isHere_25 : decode cX11_isHere 25 = .ok (.ifCond .eq 7, 3) := by decide +kernel
theorem dX11_isHere_28 : decode cX11_isHere 28 = .ok (.iconst 1, 1) := by decide +kernel
theorem dX11_isHere_29 : decode cX11_isHere 29 = .ok (.goto 4, 3) := by decide +kernel
theorem dX11_isHere_32 : decode cX11_isHere 32 = .ok (.iconst 0, 1) := by decide +kernel
theorem dX11_isHere_33 : decode cX11_isHere 33 = .ok (.ireturn, 1) := by decide +kernel
theorem dX11_passesSpaces_0 : decode cX11_passesSpaces 0 = .ok (.aload_n 0, 1) := by decide +kernel
theorem dX11_passesSpaces_1 : decode cX11_passesSpaces 1 = .ok (.bipush 32, 2) := by decide +kernel
theorem dX11_passesSpaces_3 : decode cX11_passesSpaces 3 = .ok (.bipush 32, 2) := by decide +kernel
theorem dX11_passesSpaces_5 : decode cX11_passesSpaces 5 = .ok (.invokevirtual 216, 3) := by decide +kernel
theorem dX11_passesSpaces_8 : decode cX11_passesSpaces 8 = .ok (.ifCond .eq 16, 3) := by decide +kernel
theorem dX11_passesSpaces_11 : decode cX11_passesSpaces 11 = .ok (.aload_n 0, 1) := by decide +kernel
theorem dX11_passesSpaces_12 : decode cX11_passesSpaces 12 = .ok (.dup, 1) := by decide +kernel
theorem dX11_passesSpaces_13 : decode cX11_passesSpaces 13 = .ok (.getfield 213, 3) := by decide +kernel
theorem dX11_passesSpaces_16 : decode cX11_passesSpaces 16 = .ok (.iconst 1, 1) := by decide +kernel
theorem dX11_passesSpaces_17 : decode cX11_passesSpaces 17 = .ok (.iadd, 1) := by decide +kernel
theorem dX11_passesSpaces_18 : decode cX11_passesSpaces 18 = .ok (.putfield 213, 3) := by decide +kernel
theorem dX11_passesSpaces_21 : decode cX11_passesSpaces 21 = .ok (.goto (-21), 3) := by decide +kernel
theorem dX11_passesSpaces_24 : decode cX11_passesSpaces 24 = .ok (.return_, 1) := by decide +kernel
theorem dX11_readsWord_0 : decode cX11_readsWord 0 = .ok (.iconst 0, 1) := by decide +kernel
theorem dX11_readsWord_1 : decode cX11_readsWord 1 = .ok (.istore_n 1, 1) := by decide +kernel
theorem dX11_readsWord_2 : decode cX11_readsWord 2 = .ok (.iconst 0, 1) := by decide +kernel
theorem dX11_readsWord_3 : decode cX11_readsWord 3 = .ok (.istore_n 2, 1) := by decide +kernel
theorem dX11_readsWord_4 : decode cX11_readsWord 4 = .ok (.aload_n 0, 1) := by decide +kernel
theorem dX11_readsWord_5 : decode cX11_readsWord 5 = .ok (.bipush 97, 2) := by decide +kernel
theorem dX11_readsWord_7 : decode cX11_readsWord 7 = .ok (.bipush 122, 2) := by decide +kernel
theorem dX11_readsWord_9 : decode cX11_readsWord 9 = .ok (.invokevirtual 216, 3) := by decide +kernel
theorem dX11_readsWord_12 : decode cX11_readsWord 12 = .ok (.ifCond .eq 49, 3) := by decide +kernel
theorem dX11_readsWord_15 : decode cX11_readsWord 15 = .ok (.iload_n 2, 1) := by decide +kernel
theorem dX11_readsWord_16 : decode cX11_readsWord 16 = .ok (.bipush 6, 2) := by decide +kernel
theorem dX11_readsWord_18 : decode cX11_readsWord 18 = .ok (.if_icmp .ge 25, 3) := by decide +kernel
theorem dX11_readsWord_21 : decode cX11_readsWord 21 = .ok (.bipush 27, 2) := by decide +kernel
theorem dX11_readsWord_23 : decode cX11_readsWord 23 = .ok (.iload_n 1, 1) := by decide +kernel
theorem dX11_readsWord_24 : decode cX11_readsWord 24 = .ok (.imul, 1) := by decide +kernel
theorem dX11_readsWord_25 : decode cX11_readsWord 25 = .ok (.aload_n 0, 1) := by decide +kernel
theorem dX11_readsWord_26 : decode cX11_readsWord 26 = .ok (.getfield 16, 3) := by decide +kernel
theorem dX11_readsWord_29 : decode cX11_readsWord 29 = .ok (.aload_n 0, 1) := by decide +kernel
theorem dX11_readsWord_30 : decode cX11_readsWord 30 = .ok (.getfield 213, 3) := by decide +kernel
theorem dX11_readsWord_33 : decode cX11_readsWord 33 = .ok (.iaload, 1) := by decide +kernel
theorem dX11_readsWord_34 : decode cX11_readsWord 34 = .ok (.iadd, 1) := by decide +kernel
theorem dX11_readsWord_35 : decode cX11_readsWord 35 = .ok (.bipush 97, 2) := by decide +kernel
theorem dX11_readsWord_37 : decode cX11_readsWord 37 = .ok (.isub, 1) := by decide +kernel
theorem dX11_readsWord_38 : decode cX11_readsWord 38 = .ok (.iconst 1, 1) := by decide +kernel
theorem dX11_readsWord_39 : decode cX11_readsWord 39 = .ok (.iadd, 1) := by decide +kernel
theorem dX11_readsWord_40 : decode cX11_readsWord 40 = .ok (.goto 4, 3) := by decide +kernel
theorem dX11_readsWord_43 : decode cX11_readsWord 43 = .ok (.iconst 0, 1) := by decide +kernel
theorem dX11_readsWord_44 : decode cX11_readsWord 44 = .ok (.istore_n 1, 1) := by decide +kernel
theorem dX11_readsWord_45 : decode cX11_readsWord 45 = .ok (.iinc 2 1, 3) := by decide +kernel
theorem dX11_readsWord_48 : decode cX11_readsWord 48 = .ok (.aload_n 0, 1) := by decide +kernel
theorem dX11_readsWord_49 : decode cX11_readsWord 49 = .ok (.dup, 1) := by decide +kernel
theorem dX11_readsWord_50 : decode cX11_readsWord 50 = .ok (.getfield 213, 3) := by decide +kernel
theorem dX11_readsWord_53 : decode cX11_readsWord 53 = .ok (.iconst 1, 1) := by decide +kernel
theorem dX11_readsWord_54 : decode cX11_readsWord 54 = .ok (.iadd, 1) := by decide +kernel
theorem dX11_readsWord_55 : decode cX11_readsWord 55 = .ok (.putfield 213, 3) := by decide +kernel
theorem dX11_readsWord_58 : decode cX11_readsWord 58 = .ok (.goto (-54), 3) := by decide +kernel
theorem dX11_readsWord_61 : decode cX11_readsWord 61 = .ok (.iload_n 2, 1) := by decide +kernel
theorem dX11_readsWord_62 : decode cX11_readsWord 62 = .ok (.bipush 6, 2) := by decide +kernel
theorem dX11_readsWord_64 : decode cX11_readsWord 64 = .ok (.if_icmp .le 7, 3) := by decide +kernel
theorem dX11_readsWord_67 : decode cX11_readsWord 67 = .ok (.iconst 0, 1) := by decide +kernel
theorem dX11_readsWord_68 : decode cX11_readsWord 68 = .ok (.goto 4, 3) := by decide +kernel
theorem dX11_readsWord_71 : decode cX11_readsWord 71 = .ok (.iload_n 1, 1) := by decide +kernel
theorem dX11_readsWord_72 : decode cX11_readsWord 72 = .ok (.ireturn, 1) := by decide +kernel
theorem dX11_codeOf_0 : decode cX11_codeOf 0 = .ok (.bipush 27, 2) := by decide +kernel
theorem dX11_codeOf_2 : decode cX11_codeOf 2 = .ok (.bipush 27, 2) := by decide +kernel
theorem dX11_codeOf_4 : decode cX11_codeOf 4 = .ok (.iload_n 0, 1) := by decide +kernel
theorem dX11_codeOf_5 : decode cX11_codeOf 5 = .ok (.bipush 97, 2) := by decide +kernel
theorem dX11_codeOf_7 : decode cX11_codeOf 7 = .ok (.isub, 1) := by decide +kernel
theorem dX11_codeOf_8 : decode cX11_codeOf 8 = .ok (.iconst 1, 1) := by decide +kernel
theorem dX11_codeOf_9 : decode cX11_codeOf 9 = .ok (.iadd, 1) := by decide +kernel
theorem dX11_codeOf_10 : decode cX11_codeOf 10 = .ok (.imul, 1) := by decide +kernel
theorem dX11_codeOf_11 : decode cX11_codeOf 11 = .ok (.iload_n 1, 1) := by decide +kernel
theorem dX11_codeOf_12 : decode cX11_codeOf 12 = .ok (.iadd, 1) := by decide +kernel
theorem dX11_codeOf_13 : decode cX11_codeOf 13 = .ok (.bipush 97, 2) := by decide +kernel
theorem dX11_codeOf_15 : decode cX11_codeOf 15 = .ok (.isub, 1) := by decide +kernel
theorem dX11_codeOf_16 : decode cX11_codeOf 16 = .ok (.iconst 1, 1) := by decide +kernel
theorem dX11_codeOf_17 : decode cX11_codeOf 17 = .ok (.iadd, 1) := by decide +kernel
theorem dX11_codeOf_18 : decode cX11_codeOf 18 = .ok (.imul, 1) := by decide +kernel
theorem dX11_codeOf_19 : decode cX11_codeOf 19 = .ok (.iload_n 2, 1) := by decide +kernel
theorem dX11_codeOf_20 : decode cX11_codeOf 20 = .ok (.iadd, 1) := by decide +kernel
theorem dX11_codeOf_21 : decode cX11_codeOf 21 = .ok (.bipush 97, 2) := by decide +kernel
theorem dX11_codeOf_23 : decode cX11_codeOf 23 = .ok (.isub, 1) := by decide +kernel
theorem dX11_codeOf_24 : decode cX11_codeOf 24 = .ok (.iconst 1, 1) := by decide +kernel
theorem dX11_codeOf_25 : decode cX11_codeOf 25 = .ok (.iadd, 1) := by decide +kernel
theorem dX11_codeOf_26 : decode cX11_codeOf 26 = .ok (.istore 6, 2) := by decide +kernel
theorem dX11_codeOf_28 : decode cX11_codeOf 28 = .ok (.iload_n 3, 1) := by decide +kernel
theorem dX11_codeOf_29 : decode cX11_codeOf 29 = .ok (.bipush 32, 2) := by decide +kernel
theorem dX11_codeOf_31 : decode cX11_codeOf 31 = .ok (.if_icmp .ne 8, 3) := by decide +kernel
theorem dX11_codeOf_34 : decode cX11_codeOf 34 = .ok (.iload 6, 2) := by decide +kernel
theorem dX11_codeOf_36 : decode cX11_codeOf 36 = .ok (.goto 15, 3) := by decide +kernel
theorem dX11_codeOf_39 : decode cX11_codeOf 39 = .ok (.bipush 27, 2) := by decide +kernel
theorem dX11_codeOf_41 : decode cX11_codeOf 41 = .ok (.iload 6, 2) := by decide +kernel
theorem dX11_codeOf_43 : decode cX11_codeOf 43 = .ok (.imul, 1) := by decide +kernel
theorem dX11_codeOf_44 : decode cX11_codeOf 44 = .ok (.iload_n 3, 1) := by decide +kernel
theorem dX11_codeOf_45 : decode cX11_codeOf 45 = .ok (.iadd, 1) := by decide +kernel
theorem dX11_codeOf_46 : decode cX11_codeOf 46 = .ok (.bipush 97, 2) := by decide +kernel
theorem dX11_codeOf_48 : decode cX11_codeOf 48 = .ok (.isub, 1) := by decide +kernel
theorem dX11_codeOf_49 : decode cX11_codeOf 49 = .ok (.iconst 1, 1) := by decide +kernel
theorem dX11_codeOf_50 : decode cX11_codeOf 50 = .ok (.iadd, 1) := by decide +kernel
theorem dX11_codeOf_51 : decode cX11_codeOf 51 = .ok (.istore 6, 2) := by decide +kernel
theorem dX11_codeOf_53 : decode cX11_codeOf 53 = .ok (.iload 4, 2) := by decide +kernel
theorem dX11_codeOf_55 : decode cX11_codeOf 55 = .ok (.bipush 32, 2) := by decide +kernel
theorem dX11_codeOf_57 : decode cX11_codeOf 57 = .ok (.if_icmp .ne 8, 3) := by decide +kernel
theorem dX11_codeOf_60 : decode cX11_codeOf 60 = .ok (.iload 6, 2) := by decide +kernel
theorem dX11_codeOf_62 : decode cX11_codeOf 62 = .ok (.goto 16, 3) := by decide +kernel
theorem dX11_codeOf_65 : decode cX11_codeOf 65 = .ok (.bipush 27, 2) := by decide +kernel
theorem dX11_codeOf_67 : decode cX11_codeOf 67 = .ok (.iload 6, 2) := by decide +kernel
theorem dX11_codeOf_69 : decode cX11_codeOf 69 = .ok (.imul, 1) := by decide +kernel
theorem dX11_codeOf_70 : decode cX11_codeOf 70 = .ok (.iload 4, 2) := by decide +kernel
theorem dX11_codeOf_72 : decode cX11_codeOf 72 = .ok (.iadd, 1) := by decide +kernel
theorem dX11_codeOf_73 : decode cX11_codeOf 73 = .ok (.bipush 97, 2) := by decide +kernel
theorem dX11_codeOf_75 : decode cX11_codeOf 75 = .ok (.isub, 1) := by decide +kernel
theorem dX11_codeOf_76 : decode cX11_codeOf 76 = .ok (.iconst 1, 1) := by decide +kernel
theorem dX11_codeOf_77 : decode cX11_codeOf 77 = .ok (.iadd, 1) := by decide +kernel
theorem dX11_codeOf_78 : decode cX11_codeOf 78 = .ok (.istore 6, 2) := by decide +kernel
theorem dX11_codeOf_80 : decode cX11_codeOf 80 = .ok (.iload 5, 2) := by decide +kernel
theorem dX11_codeOf_82 : decode cX11_codeOf 82 = .ok (.bipush 32, 2) := by decide +kernel
theorem dX11_codeOf_84 : decode cX11_codeOf 84 = .ok (.if_icmp .ne 8, 3) := by decide +kernel
theorem dX11_codeOf_87 : decode cX11_codeOf 87 = .ok (.iload 6, 2) := by decide +kernel
theorem dX11_codeOf_89 : decode cX11_codeOf 89 = .ok (.goto 16, 3) := by decide +kernel
theorem dX11_codeOf_92 : decode cX11_codeOf 92 = .ok (.bipush 27, 2) := by decide +kernel
theorem dX11_codeOf_94 : decode cX11_codeOf 94 = .ok (.iload 6, 2) := by decide +kernel
theorem dX11_codeOf_96 : decode cX11_codeOf 96 = .ok (.imul, 1) := by decide +kernel
theorem dX11_codeOf_97 : decode cX11_codeOf 97 = .ok (.iload 5, 2) := by decide +kernel
theorem dX11_codeOf_99 : decode cX11_codeOf 99 = .ok (.iadd, 1) := by decide +kernel
theorem dX11_codeOf_100 : decode cX11_codeOf 100 = .ok (.bipush 97, 2) := by decide +kernel
theorem dX11_codeOf_102 : decode cX11_codeOf 102 = .ok (.isub, 1) := by decide +kernel
theorem dX11_codeOf_103 : decode cX11_codeOf 103 = .ok (.iconst 1, 1) := by decide +kernel
theorem dX11_codeOf_104 : decode cX11_codeOf 104 = .ok (.iadd, 1) := by decide +kernel
theorem dX11_codeOf_105 : decode cX11_codeOf 105 = .ok (.ireturn, 1) := by decide +kernel
theorem dX11_kindOf_0 : decode cX11_kindOf 0 = .ok (.iload_n 0, 1) := by decide +kernel
theorem dX11_kindOf_1 : decode cX11_kindOf 1 = .ok (.bipush 98, 2) := by decide +kernel
theorem dX11_kindOf_3 : decode cX11_kindOf 3 = .ok (.bipush 117, 2) := by decide +kernel
theorem dX11_kindOf_5 : decode cX11_kindOf 5 = .ok (.bipush 121, 2) := by decide +kernel
theorem dX11_kindOf_7 : decode cX11_kindOf 7 = .ok (.bipush 101, 2) := by decide +kernel
theorem dX11_kindOf_9 : decode cX11_kindOf 9 = .ok (.bipush 114, 2) := by decide +kernel
theorem dX11_kindOf_11 : decode cX11_kindOf 11 = .ok (.bipush 32, 2) := by decide +kernel
theorem dX11_kindOf_13 : decode cX11_kindOf 13 = .ok (.invokestatic 219, 3) := by decide +kernel
theorem dX11_kindOf_16 : decode cX11_kindOf 16 = .ok (.if_icmp .ne 5, 3) := by decide +kernel
theorem dX11_kindOf_19 : decode cX11_kindOf 19 = .ok (.iconst 0, 1) := by decide +kernel
theorem dX11_kindOf_20 : decode cX11_kindOf 20 = .ok (.ireturn, 1) := by decide +kernel
theorem dX11_kindOf_21 : decode cX11_kindOf 21 = .ok (.iload_n 0, 1) := by decide +kernel
theorem dX11_kindOf_22 : decode cX11_kindOf 22 = .ok (.bipush 115, 2) := by decide +kernel
theorem dX11_kindOf_24 : decode cX11_kindOf 24 = .ok (.bipush 101, 2) := by decide +kernel
theorem dX11_kindOf_26 : decode cX11_kindOf 26 = .ok (.bipush 108, 2) := by decide +kernel
theorem dX11_kindOf_28 : decode cX11_kindOf 28 = .ok (.bipush 108, 2) := by decide +kernel
theorem dX11_kindOf_30 : decode cX11_kindOf 30 = .ok (.bipush 101, 2) := by decide +kernel
theorem dX11_kindOf_32 : decode cX11_kindOf 32 = .ok (.bipush 114, 2) := by decide +kernel
theorem dX11_kindOf_34 : decode cX11_kindOf 34 = .ok (.invokestatic 219, 3) := by decide +kernel
theorem dX11_kindOf_37 : decode cX11_kindOf 37 = .ok (.if_icmp .ne 5, 3) := by decide +kernel
theorem dX11_kindOf_40 : decode cX11_kindOf 40 = .ok (.iconst 1, 1) := by decide +kernel
theorem dX11_kindOf_41 : decode cX11_kindOf 41 = .ok (.ireturn, 1) := by decide +kernel
theorem dX11_kindOf_42 : decode cX11_kindOf 42 = .ok (.iload_n 0, 1) := by decide +kernel
theorem dX11_kindOf_43 : decode cX11_kindOf 43 = .ok (.bipush 115, 2) := by decide +kernel
theorem dX11_kindOf_45 : decode cX11_kindOf 45 = .ok (.bipush 104, 2) := by decide +kernel
theorem dX11_kindOf_47 : decode cX11_kindOf 47 = .ok (.bipush 97, 2) := by decide +kernel
theorem dX11_kindOf_49 : decode cX11_kindOf 49 = .ok (.bipush 100, 2) := by decide +kernel
theorem dX11_kindOf_51 : decode cX11_kindOf 51 = .ok (.bipush 101, 2) := by decide +kernel
theorem dX11_kindOf_53 : decode cX11_kindOf 53 = .ok (.bipush 32, 2) := by decide +kernel
theorem dX11_kindOf_55 : decode cX11_kindOf 55 = .ok (.invokestatic 219, 3) := by decide +kernel
theorem dX11_kindOf_58 : decode cX11_kindOf 58 = .ok (.if_icmp .ne 5, 3) := by decide +kernel
theorem dX11_kindOf_61 : decode cX11_kindOf 61 = .ok (.iconst 2, 1) := by decide +kernel
theorem dX11_kindOf_62 : decode cX11_kindOf 62 = .ok (.ireturn, 1) := by decide +kernel
theorem dX11_kindOf_63 : decode cX11_kindOf 63 = .ok (.iload_n 0, 1) := by decide +kernel
theorem dX11_kindOf_64 : decode cX11_kindOf 64 = .ok (.bipush 98, 2) := by decide +kernel
theorem dX11_kindOf_66 : decode cX11_kindOf 66 = .ok (.bipush 105, 2) := by decide +kernel
theorem dX11_kindOf_68 : decode cX11_kindOf 68 = .ok (.bipush 100, 2) := by decide +kernel
theorem dX11_kindOf_70 : decode cX11_kindOf 70 = .ok (.bipush 32, 2) := by decide +kernel
theorem dX11_kindOf_72 : decode cX11_kindOf 72 = .ok (.bipush 32, 2) := by decide +kernel
theorem dX11_kindOf_74 : decode cX11_kindOf 74 = .ok (.bipush 32, 2) := by decide +kernel
theorem dX11_kindOf_76 : decode cX11_kindOf 76 = .ok (.invokestatic 219, 3) := by decide +kernel
theorem dX11_kindOf_79 : decode cX11_kindOf 79 = .ok (.if_icmp .ne 5, 3) := by decide +kernel
theorem dX11_kindOf_82 : decode cX11_kindOf 82 = .ok (.iconst 3, 1) := by decide +kernel
theorem dX11_kindOf_83 : decode cX11_kindOf 83 = .ok (.ireturn, 1) := by decide +kernel
theorem dX11_kindOf_84 : decode cX11_kindOf 84 = .ok (.iload_n 0, 1) := by decide +kernel
theorem dX11_kindOf_85 : decode cX11_kindOf 85 = .ok (.bipush 111, 2) := by decide +kernel
theorem dX11_kindOf_87 : decode cX11_kindOf 87 = .ok (.bipush 114, 2) := by decide +kernel
theorem dX11_kindOf_89 : decode cX11_kindOf 89 = .ok (.bipush 100, 2) := by decide +kernel
theorem dX11_kindOf_91 : decode cX11_kindOf 91 = .ok (.bipush 101, 2) := by decide +kernel
theorem dX11_kindOf_93 : decode cX11_kindOf 93 = .ok (.bipush 114, 2) := by decide +kernel
theorem dX11_kindOf_95 : decode cX11_kindOf 95 = .ok (.bipush 32, 2) := by decide +kernel
theorem dX11_kindOf_97 : decode cX11_kindOf 97 = .ok (.invokestatic 219, 3) := by decide +kernel
theorem dX11_kindOf_100 : decode cX11_kindOf 100 = .ok (.if_icmp .ne 5, 3) := by decide +kernel
theorem dX11_kindOf_103 : decode cX11_kindOf 103 = .ok (.iconst 4, 1) := by decide +kernel
theorem dX11_kindOf_104 : decode cX11_kindOf 104 = .ok (.ireturn, 1) := by decide +kernel
theorem dX11_kindOf_105 : decode cX11_kindOf 105 = .ok (.iload_n 0, 1) := by decide +kernel
theorem dX11_kindOf_106 : decode cX11_kindOf 106 = .ok (.bipush 99, 2) := by decide +kernel
theorem dX11_kindOf_108 : decode cX11_kindOf 108 = .ok (.bipush 97, 2) := by decide +kernel
theorem dX11_kindOf_110 : decode cX11_kindOf 110 = .ok (.bipush 110, 2) := by decide +kernel
theorem dX11_kindOf_112 : decode cX11_kindOf 112 = .ok (.bipush 99, 2) := by decide +kernel
theorem dX11_kindOf_114 : decode cX11_kindOf 114 = .ok (.bipush 101, 2) := by decide +kernel
theorem dX11_kindOf_116 : decode cX11_kindOf 116 = .ok (.bipush 108, 2) := by decide +kernel
theorem dX11_kindOf_118 : decode cX11_kindOf 118 = .ok (.invokestatic 219, 3) := by decide +kernel
theorem dX11_kindOf_121 : decode cX11_kindOf 121 = .ok (.if_icmp .ne 5, 3) := by decide +kernel
theorem dX11_kindOf_124 : decode cX11_kindOf 124 = .ok (.iconst 5, 1) := by decide +kernel
theorem dX11_kindOf_125 : decode cX11_kindOf 125 = .ok (.ireturn, 1) := by decide +kernel
theorem dX11_kindOf_126 : decode cX11_kindOf 126 = .ok (.iload_n 0, 1) := by decide +kernel
theorem dX11_kindOf_127 : decode cX11_kindOf 127 = .ok (.bipush 115, 2) := by decide +kernel
theorem dX11_kindOf_129 : decode cX11_kindOf 129 = .ok (.bipush 101, 2) := by decide +kernel
theorem dX11_kindOf_131 : decode cX11_kindOf 131 = .ok (.bipush 116, 2) := by decide +kernel
theorem dX11_kindOf_133 : decode cX11_kindOf 133 = .ok (.bipush 32, 2) := by decide +kernel
theorem dX11_kindOf_135 : decode cX11_kindOf 135 = .ok (.bipush 32, 2) := by decide +kernel
theorem dX11_kindOf_137 : decode cX11_kindOf 137 = .ok (.bipush 32, 2) := by decide +kernel
theorem dX11_kindOf_139 : decode cX11_kindOf 139 = .ok (.invokestatic 219, 3) := by decide +kernel
theorem dX11_kindOf_142 : decode cX11_kindOf 142 = .ok (.if_icmp .ne 6, 3) := by decide +kernel
theorem dX11_kindOf_145 : decode cX11_kindOf 145 = .ok (.bipush 6, 2) := by decide +kernel
theorem dX11_kindOf_147 : decode cX11_kindOf 147 = .ok (.ireturn, 1) := by decide +kernel
theorem dX11_kindOf_148 : decode cX11_kindOf 148 = .ok (.iload_n 0, 1) := by decide +kernel
theorem dX11_kindOf_149 : decode cX11_kindOf 149 = .ok (.bipush 99, 2) := by decide +kernel
theorem dX11_kindOf_151 : decode cX11_kindOf 151 = .ok (.bipush 108, 2) := by decide +kernel
theorem dX11_kindOf_153 : decode cX11_kindOf 153 = .ok (.bipush 101, 2) := by decide +kernel
theorem dX11_kindOf_155 : decode cX11_kindOf 155 = .ok (.bipush 97, 2) := by decide +kernel
theorem dX11_kindOf_157 : decode cX11_kindOf 157 = .ok (.bipush 114, 2) := by decide +kernel
theorem dX11_kindOf_159 : decode cX11_kindOf 159 = .ok (.bipush 32, 2) := by decide +kernel
theorem dX11_kindOf_161 : decode cX11_kindOf 161 = .ok (.invokestatic 219, 3) := by decide +kernel
theorem dX11_kindOf_164 : decode cX11_kindOf 164 = .ok (.if_icmp .ne 8, 3) := by decide +kernel
theorem dX11_kindOf_167 : decode cX11_kindOf 167 = .ok (.bipush 7, 2) := by decide +kernel
theorem dX11_kindOf_169 : decode cX11_kindOf 169 = .ok (.goto 4, 3) := by decide +kernel
theorem dX11_kindOf_172 : decode cX11_kindOf 172 = .ok (.iconst (-1), 1) := by decide +kernel
theorem dX11_kindOf_173 : decode cX11_kindOf 173 = .ok (.ireturn, 1) := by decide +kernel
theorem dX11_manyOf_0 : decode cX11_manyOf 0 = .ok (.iload_n 0, 1) := by decide +kernel
theorem dX11_manyOf_1 : decode cX11_manyOf 1 = .ok (.iconst 2, 1) := by decide +kernel
theorem dX11_manyOf_2 : decode cX11_manyOf 2 = .ok (.if_icmp .eq 8, 3) := by decide +kernel
theorem dX11_manyOf_5 : decode cX11_manyOf 5 = .ok (.iload_n 0, 1) := by decide +kernel
theorem dX11_manyOf_6 : decode cX11_manyOf 6 = .ok (.iconst 4, 1) := by decide +kernel
theorem dX11_manyOf_7 : decode cX11_manyOf 7 = .ok (.if_icmp .ne 5, 3) := by decide +kernel
theorem dX11_manyOf_10 : decode cX11_manyOf 10 = .ok (.iconst 3, 1) := by decide +kernel
theorem dX11_manyOf_11 : decode cX11_manyOf 11 = .ok (.ireturn, 1) := by decide +kernel
theorem dX11_manyOf_12 : decode cX11_manyOf 12 = .ok (.iload_n 0, 1) := by decide +kernel
theorem dX11_manyOf_13 : decode cX11_manyOf 13 = .ok (.iconst 3, 1) := by decide +kernel
theorem dX11_manyOf_14 : decode cX11_manyOf 14 = .ok (.if_icmp .eq 9, 3) := by decide +kernel
theorem dX11_manyOf_17 : decode cX11_manyOf 17 = .ok (.iload_n 0, 1) := by decide +kernel
theorem dX11_manyOf_18 : decode cX11_manyOf 18 = .ok (.bipush 6, 2) := by decide +kernel
theorem dX11_manyOf_20 : decode cX11_manyOf 20 = .ok (.if_icmp .ne 5, 3) := by decide +kernel
theorem dX11_manyOf_23 : decode cX11_manyOf 23 = .ok (.iconst 2, 1) := by decide +kernel
theorem dX11_manyOf_24 : decode cX11_manyOf 24 = .ok (.ireturn, 1) := by decide +kernel
theorem dX11_manyOf_25 : decode cX11_manyOf 25 = .ok (.iload_n 0, 1) := by decide +kernel
theorem dX11_manyOf_26 : decode cX11_manyOf 26 = .ok (.bipush 7, 2) := by decide +kernel
theorem dX11_manyOf_28 : decode cX11_manyOf 28 = .ok (.if_icmp .ne 7, 3) := by decide +kernel
theorem dX11_manyOf_31 : decode cX11_manyOf 31 = .ok (.iconst 0, 1) := by decide +kernel
theorem dX11_manyOf_32 : decode cX11_manyOf 32 = .ok (.goto 4, 3) := by decide +kernel
theorem dX11_manyOf_35 : decode cX11_manyOf 35 = .ok (.iconst 1, 1) := by decide +kernel
theorem dX11_manyOf_36 : decode cX11_manyOf 36 = .ok (.ireturn, 1) := by decide +kernel
theorem dX11_passesNumber_0 : decode cX11_passesNumber 0 = .ok (.aload_n 0, 1) := by decide +kernel
theorem dX11_passesNumber_1 : decode cX11_passesNumber 1 = .ok (.bipush 32, 2) := by decide +kernel
theorem dX11_passesNumber_3 : decode cX11_passesNumber 3 = .ok (.bipush 32, 2) := by decide +kernel
theorem dX11_passesNumber_5 : decode cX11_passesNumber 5 = .ok (.invokevirtual 216, 3) := by decide +kernel
theorem dX11_passesNumber_8 : decode cX11_passesNumber 8 = .ok (.ifCond .ne 5, 3) := by decide +kernel
theorem dX11_passesNumber_11 : decode cX11_passesNumber 11 = .ok (.iconst 0, 1) := by decide +kernel
theorem dX11_passesNumber_12 : decode cX11_passesNumber 12 = .ok (.ireturn, 1) := by decide +kernel
theorem dX11_passesNumber_13 : decode cX11_passesNumber 13 = .ok (.aload_n 0, 1) := by decide +kernel
theorem dX11_passesNumber_14 : decode cX11_passesNumber 14 = .ok (.invokevirtual 223, 3) := by decide +kernel
theorem dX11_passesNumber_17 : decode cX11_passesNumber 17 = .ok (.aload_n 0, 1) := by decide +kernel
theorem dX11_passesNumber_18 : decode cX11_passesNumber 18 = .ok (.bipush 48, 2) := by decide +kernel
theorem dX11_passesNumber_20 : decode cX11_passesNumber 20 = .ok (.bipush 57, 2) := by decide +kernel
theorem dX11_passesNumber_22 : decode cX11_passesNumber 22 = .ok (.invokevirtual 216, 3) := by decide +kernel
theorem dX11_passesNumber_25 : decode cX11_passesNumber 25 = .ok (.ifCond .ne 5, 3) := by decide +kernel
theorem dX11_passesNumber_28 : decode cX11_passesNumber 28 = .ok (.iconst 0, 1) := by decide +kernel
theorem dX11_passesNumber_29 : decode cX11_passesNumber 29 = .ok (.ireturn, 1) := by decide +kernel
theorem dX11_passesNumber_30 : decode cX11_passesNumber 30 = .ok (.iconst 0, 1) := by decide +kernel
theorem dX11_passesNumber_31 : decode cX11_passesNumber 31 = .ok (.istore_n 2, 1) := by decide +kernel
theorem dX11_passesNumber_32 : decode cX11_passesNumber 32 = .ok (.iconst 0, 1) := by decide +kernel
theorem dX11_passesNumber_33 : decode cX11_passesNumber 33 = .ok (.istore_n 3, 1) := by decide +kernel
theorem dX11_passesNumber_34 : decode cX11_passesNumber 34 = .ok (.iload_n 3, 1) := by decide +kernel
theorem dX11_passesNumber_35 : decode cX11_passesNumber 35 = .ok (.iconst 3, 1) := by decide +kernel
theorem dX11_passesNumber_36 : decode cX11_passesNumber 36 = .ok (.if_icmp .ge 48, 3) := by decide +kernel
theorem dX11_passesNumber_39 : decode cX11_passesNumber 39 = .ok (.aload_n 0, 1) := by decide +kernel
theorem dX11_passesNumber_40 : decode cX11_passesNumber 40 = .ok (.bipush 48, 2) := by decide +kernel
theorem dX11_passesNumber_42 : decode cX11_passesNumber 42 = .ok (.bipush 57, 2) := by decide +kernel
theorem dX11_passesNumber_44 : decode cX11_passesNumber 44 = .ok (.invokevirtual 216, 3) := by decide +kernel
theorem dX11_passesNumber_47 : decode cX11_passesNumber 47 = .ok (.ifCond .eq 37, 3) := by decide +kernel
theorem dX11_passesNumber_50 : decode cX11_passesNumber 50 = .ok (.bipush 10, 2) := by decide +kernel
theorem dX11_passesNumber_52 : decode cX11_passesNumber 52 = .ok (.iload_n 2, 1) := by decide +kernel
theorem dX11_passesNumber_53 : decode cX11_passesNumber 53 = .ok (.imul, 1) := by decide +kernel
theorem dX11_passesNumber_54 : decode cX11_passesNumber 54 = .ok (.aload_n 0, 1) := by decide +kernel
theorem dX11_passesNumber_55 : decode cX11_passesNumber 55 = .ok (.getfield 16, 3) := by decide +kernel
theorem dX11_passesNumber_58 : decode cX11_passesNumber 58 = .ok (.aload_n 0, 1) := by decide +kernel
theorem dX11_passesNumber_59 : decode cX11_passesNumber 59 = .ok (.getfield 213, 3) := by decide +kernel
theorem dX11_passesNumber_62 : decode cX11_passesNumber 62 = .ok (.iaload, 1) := by decide +kernel
theorem dX11_passesNumber_63 : decode cX11_passesNumber 63 = .ok (.iadd, 1) := by decide +kernel
theorem dX11_passesNumber_64 : decode cX11_passesNumber 64 = .ok (.bipush 48, 2) := by decide +kernel
theorem dX11_passesNumber_66 : decode cX11_passesNumber 66 = .ok (.isub, 1) := by decide +kernel
theorem dX11_passesNumber_67 : decode cX11_passesNumber 67 = .ok (.istore_n 2, 1) := by decide +kernel
theorem dX11_passesNumber_68 : decode cX11_passesNumber 68 = .ok (.aload_n 0, 1) := by decide +kernel
theorem dX11_passesNumber_69 : decode cX11_passesNumber 69 = .ok (.dup, 1) := by decide +kernel
theorem dX11_passesNumber_70 : decode cX11_passesNumber 70 = .ok (.getfield 213, 3) := by decide +kernel
theorem dX11_passesNumber_73 : decode cX11_passesNumber 73 = .ok (.iconst 1, 1) := by decide +kernel
theorem dX11_passesNumber_74 : decode cX11_passesNumber 74 = .ok (.iadd, 1) := by decide +kernel
theorem dX11_passesNumber_75 : decode cX11_passesNumber 75 = .ok (.putfield 213, 3) := by decide +kernel
theorem dX11_passesNumber_78 : decode cX11_passesNumber 78 = .ok (.iinc 3 1, 3) := by decide +kernel
theorem dX11_passesNumber_81 : decode cX11_passesNumber 81 = .ok (.goto (-47), 3) := by decide +kernel
theorem dX11_passesNumber_84 : decode cX11_passesNumber 84 = .ok (.aload_n 0, 1) := by decide +kernel
theorem dX11_passesNumber_85 : decode cX11_passesNumber 85 = .ok (.getfield 19, 3) := by decide +kernel
theorem dX11_passesNumber_88 : decode cX11_passesNumber 88 = .ok (.iload_n 1, 1) := by decide +kernel
theorem dX11_passesNumber_89 : decode cX11_passesNumber 89 = .ok (.iload_n 2, 1) := by decide +kernel
theorem dX11_passesNumber_90 : decode cX11_passesNumber 90 = .ok (.iastore, 1) := by decide +kernel
theorem dX11_passesNumber_91 : decode cX11_passesNumber 91 = .ok (.iconst 1, 1) := by decide +kernel
theorem dX11_passesNumber_92 : decode cX11_passesNumber 92 = .ok (.ireturn, 1) := by decide +kernel
theorem dX11_passesCommand_0 : decode cX11_passesCommand 0 = .ok (.aload_n 0, 1) := by decide +kernel
theorem dX11_passesCommand_1 : decode cX11_passesCommand 1 = .ok (.getfield 213, 3) := by decide +kernel
theorem dX11_passesCommand_4 : decode cX11_passesCommand 4 = .ok (.istore_n 1, 1) := by decide +kernel
theorem dX11_passesCommand_5 : decode cX11_passesCommand 5 = .ok (.aload_n 0, 1) := by decide +kernel
theorem dX11_passesCommand_6 : decode cX11_passesCommand 6 = .ok (.aload_n 0, 1) := by decide +kernel
theorem dX11_passesCommand_7 : decode cX11_passesCommand 7 = .ok (.invokevirtual 226, 3) := by decide +kernel
theorem dX11_passesCommand_10 : decode cX11_passesCommand 10 = .ok (.invokestatic 229, 3) := by decide +kernel
theorem dX11_passesCommand_13 : decode cX11_passesCommand 13 = .ok (.putfield 232, 3) := by decide +kernel
theorem dX11_passesCommand_16 : decode cX11_passesCommand 16 = .ok (.aload_n 0, 1) := by decide +kernel
theorem dX11_passesCommand_17 : decode cX11_passesCommand 17 = .ok (.getfield 232, 3) := by decide +kernel
theorem dX11_passesCommand_20 : decode cX11_passesCommand 20 = .ok (.iconst (-1), 1) := by decide +kernel
theorem dX11_passesCommand_21 : decode cX11_passesCommand 21 = .ok (.if_icmp .ne 10, 3) := by decide +kernel
theorem dX11_passesCommand_24 : decode cX11_passesCommand 24 = .ok (.aload_n 0, 1) := by decide +kernel
theorem dX11_passesCommand_25 : decode cX11_passesCommand 25 = .ok (.iload_n 1, 1) := by decide +kernel
theorem dX11_passesCommand_26 : decode cX11_passesCommand 26 = .ok (.putfield 213, 3) := by decide +kernel
theorem dX11_passesCommand_29 : decode cX11_passesCommand 29 = .ok (.iconst 0, 1) := by decide +kernel
theorem dX11_passesCommand_30 : decode cX11_passesCommand 30 = .ok (.ireturn, 1) := by decide +kernel
theorem dX11_passesCommand_31 : decode cX11_passesCommand 31 = .ok (.iconst 0, 1) := by decide +kernel
theorem dX11_passesCommand_32 : decode cX11_passesCommand 32 = .ok (.istore_n 2, 1) := by decide +kernel
theorem dX11_passesCommand_33 : decode cX11_passesCommand 33 = .ok (.iload_n 2, 1) := by decide +kernel
theorem dX11_passesCommand_34 : decode cX11_passesCommand 34 = .ok (.aload_n 0, 1) := by decide +kernel
theorem dX11_passesCommand_35 : decode cX11_passesCommand 35 = .ok (.getfield 232, 3) := by decide +kernel
theorem dX11_passesCommand_38 : decode cX11_passesCommand 38 = .ok (.invokestatic 235, 3) := by decide +kernel
theorem dX11_passesCommand_41 : decode cX11_passesCommand 41 = .ok (.if_icmp .ge 19, 3) := by decide +kernel
theorem dX11_passesCommand_44 : decode cX11_passesCommand 44 = .ok (.aload_n 0, 1) := by decide +kernel
theorem dX11_passesCommand_45 : decode cX11_passesCommand 45 = .ok (.iload_n 2, 1) := by decide +kernel
theorem dX11_passesCommand_46 : decode cX11_passesCommand 46 = .ok (.invokevirtual 238, 3) := by decide +kernel
theorem dX11_passesCommand_49 : decode cX11_passesCommand 49 = .ok (.ifCond .ne 5, 3) := by decide +kernel
theorem dX11_passesCommand_52 : decode cX11_passesCommand 52 = .ok (.iconst 0, 1) := by decide +kernel
theorem dX11_passesCommand_53 : decode cX11_passesCommand 53 = .ok (.ireturn, 1) := by decide +kernel
theorem dX11_passesCommand_54 : decode cX11_passesCommand 54 = .ok (.iinc 2 1, 3) := by decide +kernel
theorem dX11_passesCommand_57 : decode cX11_passesCommand 57 = .ok (.goto (-24), 3) := by decide +kernel
theorem dX11_passesCommand_60 : decode cX11_passesCommand 60 = .ok (.aload_n 0, 1) := by decide +kernel
theorem dX11_passesCommand_61 : decode cX11_passesCommand 61 = .ok (.invokevirtual 223, 3) := by decide +kernel
theorem dX11_passesCommand_64 : decode cX11_passesCommand 64 = .ok (.aload_n 0, 1) := by decide +kernel
theorem dX11_passesCommand_65 : decode cX11_passesCommand 65 = .ok (.bipush 59, 2) := by decide +kernel
theorem dX11_passesCommand_67 : decode cX11_passesCommand 67 = .ok (.bipush 59, 2) := by decide +kernel
theorem dX11_passesCommand_69 : decode cX11_passesCommand 69 = .ok (.invokevirtual 216, 3) := by decide +kernel
theorem dX11_passesCommand_72 : decode cX11_passesCommand 72 = .ok (.ifCond .ne 5, 3) := by decide +kernel
theorem dX11_passesCommand_75 : decode cX11_passesCommand 75 = .ok (.iconst 0, 1) := by decide +kernel
theorem dX11_passesCommand_76 : decode cX11_passesCommand 76 = .ok (.ireturn, 1) := by decide +kernel
theorem dX11_passesCommand_77 : decode cX11_passesCommand 77 = .ok (.aload_n 0, 1) := by decide +kernel
theorem dX11_passesCommand_78 : decode cX11_passesCommand 78 = .ok (.dup, 1) := by decide +kernel
theorem dX11_passesCommand_79 : decode cX11_passesCommand 79 = .ok (.getfield 213, 3) := by decide +kernel
theorem dX11_passesCommand_82 : decode cX11_passesCommand 82 = .ok (.iconst 1, 1) := by decide +kernel
theorem dX11_passesCommand_83 : decode cX11_passesCommand 83 = .ok (.iadd, 1) := by decide +kernel
theorem dX11_passesCommand_84 : decode cX11_passesCommand 84 = .ok (.putfield 213, 3) := by decide +kernel
theorem dX11_passesCommand_87 : decode cX11_passesCommand 87 = .ok (.aload_n 0, 1) := by decide +kernel
theorem dX11_passesCommand_88 : decode cX11_passesCommand 88 = .ok (.invokevirtual 223, 3) := by decide +kernel
theorem dX11_passesCommand_91 : decode cX11_passesCommand 91 = .ok (.iconst 1, 1) := by decide +kernel
theorem dX11_passesCommand_92 : decode cX11_passesCommand 92 = .ok (.ireturn, 1) := by decide +kernel
theorem dX11_faultOf_0 : decode cX11_faultOf 0 = .ok (.aload_n 0, 1) := by decide +kernel
theorem dX11_faultOf_1 : decode cX11_faultOf 1 = .ok (.iconst 0, 1) := by decide +kernel
theorem dX11_faultOf_2 : decode cX11_faultOf 2 = .ok (.putfield 213, 3) := by decide +kernel
theorem dX11_faultOf_5 : decode cX11_faultOf 5 = .ok (.aload_n 0, 1) := by decide +kernel
theorem dX11_faultOf_6 : decode cX11_faultOf 6 = .ok (.invokevirtual 223, 3) := by decide +kernel
theorem dX11_faultOf_9 : decode cX11_faultOf 9 = .ok (.aload_n 0, 1) := by decide +kernel
theorem dX11_faultOf_10 : decode cX11_faultOf 10 = .ok (.getfield 213, 3) := by decide +kernel
theorem dX11_faultOf_13 : decode cX11_faultOf 13 = .ok (.aload_n 0, 1) := by decide +kernel
theorem dX11_faultOf_14 : decode cX11_faultOf 14 = .ok (.getfield 201, 3) := by decide +kernel
theorem dX11_faultOf_17 : decode cX11_faultOf 17 = .ok (.if_icmp .ge 26, 3) := by decide +kernel
theorem dX11_faultOf_20 : decode cX11_faultOf 20 = .ok (.aload_n 0, 1) := by decide +kernel
theorem dX11_faultOf_21 : decode cX11_faultOf 21 = .ok (.bipush 97, 2) := by decide +kernel
theorem dX11_faultOf_23 : decode cX11_faultOf 23 = .ok (.bipush 122, 2) := by decide +kernel
theorem dX11_faultOf_25 : decode cX11_faultOf 25 = .ok (.invokevirtual 216, 3) := by decide +kernel
theorem dX11_faultOf_28 : decode cX11_faultOf 28 = .ok (.ifCond .eq 10, 3) := by decide +kernel
theorem dX11_faultOf_31 : decode cX11_faultOf 31 = .ok (.aload_n 0, 1) := by decide +kernel
theorem dX11_faultOf_32 : decode cX11_faultOf 32 = .ok (.invokevirtual 241, 3) := by decide +kernel
theorem dX11_faultOf_35 : decode cX11_faultOf 35 = .ok (.ifCond .ne (-26), 3) := by decide +kernel
theorem dX11_faultOf_38 : decode cX11_faultOf 38 = .ok (.aload_n 0, 1) := by decide +kernel
theorem dX11_faultOf_39 : decode cX11_faultOf 39 = .ok (.getfield 213, 3) := by decide +kernel
theorem dX11_faultOf_42 : decode cX11_faultOf 42 = .ok (.ireturn, 1) := by decide +kernel
theorem dX11_faultOf_43 : decode cX11_faultOf 43 = .ok (.iconst (-1), 1) := by decide +kernel
theorem dX11_faultOf_44 : decode cX11_faultOf 44 = .ok (.ireturn, 1) := by decide +kernel
theorem dX11_does_0 : decode cX11_does 0 = .ok (.aload_n 0, 1) := by decide +kernel
theorem dX11_does_1 : decode cX11_does 1 = .ok (.getfield 232, 3) := by decide +kernel
theorem dX11_does_4 : decode cX11_does 4 = .ok (.tableswitch 331 0 6 #[44, 44, 84, 140, 195, 251, 288], 44) := by decide +kernel
theorem dX11_does_48 : decode cX11_does 48 = .ok (.aload_n 0, 1) := by decide +kernel
theorem dX11_does_49 : decode cX11_does 49 = .ok (.aload_n 0, 1) := by decide +kernel
theorem dX11_does_50 : decode cX11_does 50 = .ok (.getfield 232, 3) := by decide +kernel
theorem dX11_does_53 : decode cX11_does 53 = .ok (.aload_n 0, 1) := by decide +kernel
theorem dX11_does_54 : decode cX11_does 54 = .ok (.getfield 19, 3) := by decide +kernel
theorem dX11_does_57 : decode cX11_does 57 = .ok (.iconst 0, 1) := by decide +kernel
theorem dX11_does_58 : decode cX11_does 58 = .ok (.iaload, 1) := by decide +kernel
theorem dX11_does_59 : decode cX11_does 59 = .ok (.invokevirtual 51, 3) := by decide +kernel
theorem dX11_does_62 : decode cX11_does 62 = .ok (.istore_n 1, 1) := by decide +kernel
theorem dX11_does_63 : decode cX11_does 63 = .ok (.iload_n 1, 1) := by decide +kernel
theorem dX11_does_64 : decode cX11_does 64 = .ok (.ifCond .eq 7, 3) := by decide +kernel
theorem dX11_does_67 : decode cX11_does 67 = .ok (.iconst 0, 1) := by decide +kernel
theorem dX11_does_68 : decode cX11_does 68 = .ok (.goto 17, 3) := by decide +kernel
theorem dX11_does_71 : decode cX11_does 71 = .ok (.aload_n 0, 1) := by decide +kernel
theorem dX11_does_72 : decode cX11_does 72 = .ok (.aload_n 0, 1) := by decide +kernel
theorem dX11_does_73 : decode cX11_does 73 = .ok (.getfield 232, 3) := by decide +kernel
theorem dX11_does_76 : decode cX11_does 76 = .ok (.aload_n 0, 1) := by decide +kernel
theorem dX11_does_77 : decode cX11_does 77 = .ok (.getfield 19, 3) := by decide +kernel
theorem dX11_does_80 : decode cX11_does 80 = .ok (.iconst 0, 1) := by decide +kernel
theorem dX11_does_81 : decode cX11_does 81 = .ok (.iaload, 1) := by decide +kernel
theorem dX11_does_82 : decode cX11_does 82 = .ok (.invokevirtual 57, 3) := by decide +kernel
theorem dX11_does_85 : decode cX11_does 85 = .ok (.istore_n 2, 1) := by decide +kernel
theorem dX11_does_86 : decode cX11_does 86 = .ok (.iload_n 1, 1) := by decide +kernel
theorem dX11_does_87 : decode cX11_does 87 = .ok (.ireturn, 1) := by decide +kernel
theorem dX11_does_88 : decode cX11_does 88 = .ok (.aload_n 0, 1) := by decide +kernel
theorem dX11_does_89 : decode cX11_does 89 = .ok (.aload_n 0, 1) := by decide +kernel
theorem dX11_does_90 : decode cX11_does 90 = .ok (.getfield 19, 3) := by decide +kernel
theorem dX11_does_93 : decode cX11_does 93 = .ok (.iconst 0, 1) := by decide +kernel
theorem dX11_does_94 : decode cX11_does 94 = .ok (.iaload, 1) := by decide +kernel
theorem dX11_does_95 : decode cX11_does 95 = .ok (.aload_n 0, 1) := by decide +kernel
theorem dX11_does_96 : decode cX11_does 96 = .ok (.getfield 19, 3) := by decide +kernel
theorem dX11_does_99 : decode cX11_does 99 = .ok (.iconst 1, 1) := by decide +kernel
theorem dX11_does_100 : decode cX11_does 100 = .ok (.iaload, 1) := by decide +kernel
theorem dX11_does_101 : decode cX11_does 101 = .ok (.aload_n 0, 1) := by decide +kernel
theorem dX11_does_102 : decode cX11_does 102 = .ok (.getfield 19, 3) := by decide +kernel
theorem dX11_does_105 : decode cX11_does 105 = .ok (.iconst 2, 1) := by decide +kernel
theorem dX11_does_106 : decode cX11_does 106 = .ok (.iaload, 1) := by decide +kernel
theorem dX11_does_107 : decode cX11_does 107 = .ok (.invokevirtual 74, 3) := by decide +kernel
theorem dX11_does_110 : decode cX11_does 110 = .ok (.istore_n 1, 1) := by decide +kernel
theorem dX11_does_111 : decode cX11_does 111 = .ok (.iload_n 1, 1) := by decide +kernel
theorem dX11_does_112 : decode cX11_does 112 = .ok (.ifCond .eq 7, 3) := by decide +kernel
theorem dX11_does_115 : decode cX11_does 115 = .ok (.iconst 0, 1) := by decide +kernel
theorem dX11_does_116 : decode cX11_does 116 = .ok (.goto 25, 3) := by decide +kernel
theorem dX11_does_119 : decode cX11_does 119 = .ok (.aload_n 0, 1) := by decide +kernel
theorem dX11_does_120 : decode cX11_does 120 = .ok (.aload_n 0, 1) := by decide +kernel
theorem dX11_does_121 : decode cX11_does 121 = .ok (.getfield 19, 3) := by decide +kernel
theorem dX11_does_124 : decode cX11_does 124 = .ok (.iconst 0, 1) := by decide +kernel
theorem dX11_does_125 : decode cX11_does 125 = .ok (.iaload, 1) := by decide +kernel
theorem dX11_does_126 : decode cX11_does 126 = .ok (.aload_n 0, 1) := by decide +kernel
theorem dX11_does_127 : decode cX11_does 127 = .ok (.getfield 19, 3) := by decide +kernel
theorem dX11_does_130 : decode cX11_does 130 = .ok (.iconst 1, 1) := by decide +kernel
theorem dX11_does_131 : decode cX11_does 131 = .ok (.iaload, 1) := by decide +kernel
theorem dX11_does_132 : decode cX11_does 132 = .ok (.aload_n 0, 1) := by decide +kernel
theorem dX11_does_133 : decode cX11_does 133 = .ok (.getfield 19, 3) := by decide +kernel
theorem dX11_does_136 : decode cX11_does 136 = .ok (.iconst 2, 1) := by decide +kernel
theorem dX11_does_137 : decode cX11_does 137 = .ok (.iaload, 1) := by decide +kernel
theorem dX11_does_138 : decode cX11_does 138 = .ok (.invokevirtual 78, 3) := by decide +kernel
theorem dX11_does_141 : decode cX11_does 141 = .ok (.istore_n 2, 1) := by decide +kernel
theorem dX11_does_142 : decode cX11_does 142 = .ok (.iload_n 1, 1) := by decide +kernel
theorem dX11_does_143 : decode cX11_does 143 = .ok (.ireturn, 1) := by decide +kernel
theorem dX11_does_144 : decode cX11_does 144 = .ok (.aload_n 0, 1) := by decide +kernel
theorem dX11_does_145 : decode cX11_does 145 = .ok (.aload_n 0, 1) := by decide +kernel
theorem dX11_does_146 : decode cX11_does 146 = .ok (.getfield 19, 3) := by decide +kernel
theorem dX11_does_149 : decode cX11_does 149 = .ok (.iconst 0, 1) := by decide +kernel
theorem dX11_does_150 : decode cX11_does 150 = .ok (.iaload, 1) := by decide +kernel
theorem dX11_does_151 : decode cX11_does 151 = .ok (.iconst 1, 1) := by decide +kernel
theorem dX11_does_152 : decode cX11_does 152 = .ok (.aload_n 0, 1) := by decide +kernel
theorem dX11_does_153 : decode cX11_does 153 = .ok (.getfield 19, 3) := by decide +kernel
theorem dX11_does_156 : decode cX11_does 156 = .ok (.iconst 1, 1) := by decide +kernel
theorem dX11_does_157 : decode cX11_does 157 = .ok (.iaload, 1) := by decide +kernel
theorem dX11_does_158 : decode cX11_does 158 = .ok (.invokevirtual 90, 3) := by decide +kernel
theorem dX11_does_161 : decode cX11_does 161 = .ok (.istore_n 1, 1) := by decide +kernel
theorem dX11_does_162 : decode cX11_does 162 = .ok (.iload_n 1, 1) := by decide +kernel
theorem dX11_does_163 : decode cX11_does 163 = .ok (.ifCond .eq 7, 3) := by decide +kernel
theorem dX11_does_166 : decode cX11_does 166 = .ok (.iconst 0, 1) := by decide +kernel
theorem dX11_does_167 : decode cX11_does 167 = .ok (.goto 29, 3) := by decide +kernel
theorem dX11_does_170 : decode cX11_does 170 = .ok (.aload_n 0, 1) := by decide +kernel
theorem dX11_does_171 : decode cX11_does 171 = .ok (.aload_n 0, 1) := by decide +kernel
theorem dX11_does_172 : decode cX11_does 172 = .ok (.getfield 19, 3) := by decide +kernel
theorem dX11_does_175 : decode cX11_does 175 = .ok (.iconst 0, 1) := by decide +kernel
theorem dX11_does_176 : decode cX11_does 176 = .ok (.iaload, 1) := by decide +kernel
theorem dX11_does_177 : decode cX11_does 177 = .ok (.aload_n 0, 1) := by decide +kernel
theorem dX11_does_178 : decode cX11_does 178 = .ok (.aload_n 0, 1) := by decide +kernel
theorem dX11_does_179 : decode cX11_does 179 = .ok (.getfield 19, 3) := by decide +kernel
theorem dX11_does_182 : decode cX11_does 182 = .ok (.iconst 0, 1) := by decide +kernel
theorem dX11_does_183 : decode cX11_does 183 = .ok (.iaload, 1) := by decide +kernel
theorem dX11_does_184 : decode cX11_does 184 = .ok (.invokevirtual 70, 3) := by decide +kernel
theorem dX11_does_187 : decode cX11_does 187 = .ok (.aload_n 0, 1) := by decide +kernel
theorem dX11_does_188 : decode cX11_does 188 = .ok (.getfield 19, 3) := by decide +kernel
theorem dX11_does_191 : decode cX11_does 191 = .ok (.iconst 1, 1) := by decide +kernel
theorem dX11_does_192 : decode cX11_does 192 = .ok (.iaload, 1) := by decide +kernel
theorem dX11_does_193 : decode cX11_does 193 = .ok (.invokevirtual 93, 3) := by decide +kernel
theorem dX11_does_196 : decode cX11_does 196 = .ok (.istore_n 2, 1) := by decide +kernel
theorem dX11_does_197 : decode cX11_does 197 = .ok (.iload_n 1, 1) := by decide +kernel
theorem dX11_does_198 : decode cX11_does 198 = .ok (.ireturn, 1) := by decide +kernel
theorem dX11_does_199 : decode cX11_does 199 = .ok (.aload_n 0, 1) := by decide +kernel
theorem dX11_does_200 : decode cX11_does 200 = .ok (.aload_n 0, 1) := by decide +kernel
theorem dX11_does_201 : decode cX11_does 201 = .ok (.getfield 19, 3) := by decide +kernel
theorem dX11_does_204 : decode cX11_does 204 = .ok (.iconst 0, 1) := by decide +kernel
theorem dX11_does_205 : decode cX11_does 205 = .ok (.iaload, 1) := by decide +kernel
theorem dX11_does_206 : decode cX11_does 206 = .ok (.aload_n 0, 1) := by decide +kernel
theorem dX11_does_207 : decode cX11_does 207 = .ok (.getfield 19, 3) := by decide +kernel
theorem dX11_does_210 : decode cX11_does 210 = .ok (.iconst 1, 1) := by decide +kernel
theorem dX11_does_211 : decode cX11_does 211 = .ok (.iaload, 1) := by decide +kernel
theorem dX11_does_212 : decode cX11_does 212 = .ok (.aload_n 0, 1) := by decide +kernel
theorem dX11_does_213 : decode cX11_does 213 = .ok (.getfield 19, 3) := by decide +kernel
theorem dX11_does_216 : decode cX11_does 216 = .ok (.iconst 2, 1) := by decide +kernel
theorem dX11_does_217 : decode cX11_does 217 = .ok (.iaload, 1) := by decide +kernel
theorem dX11_does_218 : decode cX11_does 218 = .ok (.invokevirtual 90, 3) := by decide +kernel
theorem dX11_does_221 : decode cX11_does 221 = .ok (.istore_n 1, 1) := by decide +kernel
theorem dX11_does_222 : decode cX11_does 222 = .ok (.iload_n 1, 1) := by decide +kernel
theorem dX11_does_223 : decode cX11_does 223 = .ok (.ifCond .eq 7, 3) := by decide +kernel
theorem dX11_does_226 : decode cX11_does 226 = .ok (.iconst 0, 1) := by decide +kernel
theorem dX11_does_227 : decode cX11_does 227 = .ok (.goto 25, 3) := by decide +kernel
theorem dX11_does_230 : decode cX11_does 230 = .ok (.aload_n 0, 1) := by decide +kernel
theorem dX11_does_231 : decode cX11_does 231 = .ok (.aload_n 0, 1) := by decide +kernel
theorem dX11_does_232 : decode cX11_does 232 = .ok (.getfield 19, 3) := by decide +kernel
theorem dX11_does_235 : decode cX11_does 235 = .ok (.iconst 0, 1) := by decide +kernel
theorem dX11_does_236 : decode cX11_does 236 = .ok (.iaload, 1) := by decide +kernel
theorem dX11_does_237 : decode cX11_does 237 = .ok (.aload_n 0, 1) := by decide +kernel
theorem dX11_does_238 : decode cX11_does 238 = .ok (.getfield 19, 3) := by decide +kernel
theorem dX11_does_241 : decode cX11_does 241 = .ok (.iconst 1, 1) := by decide +kernel
theorem dX11_does_242 : decode cX11_does 242 = .ok (.iaload, 1) := by decide +kernel
theorem dX11_does_243 : decode cX11_does 243 = .ok (.aload_n 0, 1) := by decide +kernel
theorem dX11_does_244 : decode cX11_does 244 = .ok (.getfield 19, 3) := by decide +kernel
theorem dX11_does_247 : decode cX11_does 247 = .ok (.iconst 2, 1) := by decide +kernel
theorem dX11_does_248 : decode cX11_does 248 = .ok (.iaload, 1) := by decide +kernel
theorem dX11_does_249 : decode cX11_does 249 = .ok (.invokevirtual 93, 3) := by decide +kernel
theorem dX11_does_252 : decode cX11_does 252 = .ok (.istore_n 2, 1) := by decide +kernel
theorem dX11_does_253 : decode cX11_does 253 = .ok (.iload_n 1, 1) := by decide +kernel
theorem dX11_does_254 : decode cX11_does 254 = .ok (.ireturn, 1) := by decide +kernel
theorem dX11_does_255 : decode cX11_does 255 = .ok (.aload_n 0, 1) := by decide +kernel
theorem dX11_does_256 : decode cX11_does 256 = .ok (.aload_n 0, 1) := by decide +kernel
theorem dX11_does_257 : decode cX11_does 257 = .ok (.getfield 19, 3) := by decide +kernel
theorem dX11_does_260 : decode cX11_does 260 = .ok (.iconst 0, 1) := by decide +kernel
theorem dX11_does_261 : decode cX11_does 261 = .ok (.iaload, 1) := by decide +kernel
theorem dX11_does_262 : decode cX11_does 262 = .ok (.invokevirtual 99, 3) := by decide +kernel
theorem dX11_does_265 : decode cX11_does 265 = .ok (.istore_n 2, 1) := by decide +kernel
theorem dX11_does_266 : decode cX11_does 266 = .ok (.iload_n 2, 1) := by decide +kernel
theorem dX11_does_267 : decode cX11_does 267 = .ok (.ifCond .ge 7, 3) := by decide +kernel
theorem dX11_does_270 : decode cX11_does 270 = .ok (.iconst 1, 1) := by decide +kernel
theorem dX11_does_271 : decode cX11_does 271 = .ok (.goto 4, 3) := by decide +kernel
theorem dX11_does_274 : decode cX11_does 274 = .ok (.iconst 0, 1) := by decide +kernel
theorem dX11_does_275 : decode cX11_does 275 = .ok (.istore_n 1, 1) := by decide +kernel
theorem dX11_does_276 : decode cX11_does 276 = .ok (.iload_n 1, 1) := by decide +kernel
theorem dX11_does_277 : decode cX11_does 277 = .ok (.ifCond .eq 7, 3) := by decide +kernel
theorem dX11_does_280 : decode cX11_does 280 = .ok (.iconst 0, 1) := by decide +kernel
theorem dX11_does_281 : decode cX11_does 281 = .ok (.goto 8, 3) := by decide +kernel
theorem dX11_does_284 : decode cX11_does 284 = .ok (.aload_n 0, 1) := by decide +kernel
theorem dX11_does_285 : decode cX11_does 285 = .ok (.iload_n 2, 1) := by decide +kernel
theorem dX11_does_286 : decode cX11_does 286 = .ok (.invokevirtual 102, 3) := by decide +kernel
theorem dX11_does_289 : decode cX11_does 289 = .ok (.istore_n 2, 1) := by decide +kernel
theorem dX11_does_290 : decode cX11_does 290 = .ok (.iload_n 1, 1) := by decide +kernel
theorem dX11_does_291 : decode cX11_does 291 = .ok (.ireturn, 1) := by decide +kernel
theorem dX11_does_292 : decode cX11_does 292 = .ok (.aload_n 0, 1) := by decide +kernel
theorem dX11_does_293 : decode cX11_does 293 = .ok (.getfield 19, 3) := by decide +kernel
theorem dX11_does_296 : decode cX11_does 296 = .ok (.iconst 0, 1) := by decide +kernel
theorem dX11_does_297 : decode cX11_does 297 = .ok (.iaload, 1) := by decide +kernel
theorem dX11_does_298 : decode cX11_does 298 = .ok (.aload_n 0, 1) := by decide +kernel
theorem dX11_does_299 : decode cX11_does 299 = .ok (.getfield 19, 3) := by decide +kernel
theorem dX11_does_302 : decode cX11_does 302 = .ok (.iconst 1, 1) := by decide +kernel
theorem dX11_does_303 : decode cX11_does 303 = .ok (.iaload, 1) := by decide +kernel
theorem dX11_does_304 : decode cX11_does 304 = .ok (.invokestatic 81, 3) := by decide +kernel
theorem dX11_does_307 : decode cX11_does 307 = .ok (.istore_n 1, 1) := by decide +kernel
theorem dX11_does_308 : decode cX11_does 308 = .ok (.iload_n 1, 1) := by decide +kernel
theorem dX11_does_309 : decode cX11_does 309 = .ok (.ifCond .eq 7, 3) := by decide +kernel
theorem dX11_does_312 : decode cX11_does 312 = .ok (.iconst 0, 1) := by decide +kernel
theorem dX11_does_313 : decode cX11_does 313 = .ok (.goto 19, 3) := by decide +kernel
theorem dX11_does_316 : decode cX11_does 316 = .ok (.aload_n 0, 1) := by decide +kernel
theorem dX11_does_317 : decode cX11_does 317 = .ok (.aload_n 0, 1) := by decide +kernel
theorem dX11_does_318 : decode cX11_does 318 = .ok (.getfield 19, 3) := by decide +kernel
theorem dX11_does_321 : decode cX11_does 321 = .ok (.iconst 0, 1) := by decide +kernel
theorem dX11_does_322 : decode cX11_does 322 = .ok (.iaload, 1) := by decide +kernel
theorem dX11_does_323 : decode cX11_does 323 = .ok (.aload_n 0, 1) := by decide +kernel
theorem dX11_does_324 : decode cX11_does 324 = .ok (.getfield 19, 3) := by decide +kernel
theorem dX11_does_327 : decode cX11_does 327 = .ok (.iconst 1, 1) := by decide +kernel
theorem dX11_does_328 : decode cX11_does 328 = .ok (.iaload, 1) := by decide +kernel
theorem dX11_does_329 : decode cX11_does 329 = .ok (.invokevirtual 84, 3) := by decide +kernel
theorem dX11_does_332 : decode cX11_does 332 = .ok (.istore_n 2, 1) := by decide +kernel
theorem dX11_does_333 : decode cX11_does 333 = .ok (.iload_n 1, 1) := by decide +kernel
theorem dX11_does_334 : decode cX11_does 334 = .ok (.ireturn, 1) := by decide +kernel
theorem dX11_does_335 : decode cX11_does 335 = .ok (.aload_n 0, 1) := by decide +kernel
theorem dX11_does_336 : decode cX11_does 336 = .ok (.invokevirtual 176, 3) := by decide +kernel
theorem dX11_does_339 : decode cX11_does 339 = .ok (.istore_n 1, 1) := by decide +kernel
theorem dX11_does_340 : decode cX11_does 340 = .ok (.iload_n 1, 1) := by decide +kernel
theorem dX11_does_341 : decode cX11_does 341 = .ok (.ifCond .eq 7, 3) := by decide +kernel
theorem dX11_does_344 : decode cX11_does 344 = .ok (.iconst 0, 1) := by decide +kernel
theorem dX11_does_345 : decode cX11_does 345 = .ok (.goto 7, 3) := by decide +kernel
theorem dX11_does_348 : decode cX11_does 348 = .ok (.aload_n 0, 1) := by decide +kernel
theorem dX11_does_349 : decode cX11_does 349 = .ok (.invokevirtual 179, 3) := by decide +kernel
theorem dX11_does_352 : decode cX11_does 352 = .ok (.istore_n 2, 1) := by decide +kernel
theorem dX11_does_353 : decode cX11_does 353 = .ok (.iload_n 1, 1) := by decide +kernel
theorem dX11_does_354 : decode cX11_does 354 = .ok (.ireturn, 1) := by decide +kernel
theorem dX11_runCommands_0 : decode cX11_runCommands 0 = .ok (.aload_n 0, 1) := by decide +kernel
theorem dX11_runCommands_1 : decode cX11_runCommands 1 = .ok (.iconst 0, 1) := by decide +kernel
theorem dX11_runCommands_2 : decode cX11_runCommands 2 = .ok (.putfield 25, 3) := by decide +kernel
theorem dX11_runCommands_5 : decode cX11_runCommands 5 = .ok (.aload_n 0, 1) := by decide +kernel
theorem dX11_runCommands_6 : decode cX11_runCommands 6 = .ok (.invokevirtual 245, 3) := by decide +kernel
theorem dX11_runCommands_9 : decode cX11_runCommands 9 = .ok (.istore_n 1, 1) := by decide +kernel
theorem dX11_runCommands_10 : decode cX11_runCommands 10 = .ok (.iload_n 1, 1) := by decide +kernel
theorem dX11_runCommands_11 : decode cX11_runCommands 11 = .ok (.ifCond .lt 8, 3) := by decide +kernel
theorem dX11_runCommands_14 : decode cX11_runCommands 14 = .ok (.bipush (-10), 2) := by decide +kernel
theorem dX11_runCommands_16 : decode cX11_runCommands 16 = .ok (.iload_n 1, 1) := by decide +kernel
theorem dX11_runCommands_17 : decode cX11_runCommands 17 = .ok (.isub, 1) := by decide +kernel
theorem dX11_runCommands_18 : decode cX11_runCommands 18 = .ok (.ireturn, 1) := by decide +kernel
theorem dX11_runCommands_19 : decode cX11_runCommands 19 = .ok (.aload_n 0, 1) := by decide +kernel
theorem dX11_runCommands_20 : decode cX11_runCommands 20 = .ok (.invokevirtual 54, 3) := by decide +kernel
theorem dX11_runCommands_23 : decode cX11_runCommands 23 = .ok (.iconst 0, 1) := by decide +kernel
theorem dX11_runCommands_24 : decode cX11_runCommands 24 = .ok (.istore_n 2, 1) := by decide +kernel
theorem dX11_runCommands_25 : decode cX11_runCommands 25 = .ok (.aload_n 0, 1) := by decide +kernel
theorem dX11_runCommands_26 : decode cX11_runCommands 26 = .ok (.iconst 0, 1) := by decide +kernel
theorem dX11_runCommands_27 : decode cX11_runCommands 27 = .ok (.putfield 213, 3) := by decide +kernel
theorem dX11_runCommands_30 : decode cX11_runCommands 30 = .ok (.aload_n 0, 1) := by decide +kernel
theorem dX11_runCommands_31 : decode cX11_runCommands 31 = .ok (.invokevirtual 223, 3) := by decide +kernel
theorem dX11_runCommands_34 : decode cX11_runCommands 34 = .ok (.aload_n 0, 1) := by decide +kernel
theorem dX11_runCommands_35 : decode cX11_runCommands 35 = .ok (.getfield 213, 3) := by decide +kernel
theorem dX11_runCommands_38 : decode cX11_runCommands 38 = .ok (.aload_n 0, 1) := by decide +kernel
theorem dX11_runCommands_39 : decode cX11_runCommands 39 = .ok (.getfield 201, 3) := by decide +kernel
theorem dX11_runCommands_42 : decode cX11_runCommands 42 = .ok (.if_icmp .ge 7, 3) := by decide +kernel
theorem dX11_runCommands_45 : decode cX11_runCommands 45 = .ok (.iconst 1, 1) := by decide +kernel
theorem dX11_runCommands_46 : decode cX11_runCommands 46 = .ok (.goto 4, 3) := by decide +kernel
theorem dX11_runCommands_49 : decode cX11_runCommands 49 = .ok (.iconst 0, 1) := by decide +kernel
theorem dX11_runCommands_50 : decode cX11_runCommands 50 = .ok (.istore_n 3, 1) := by decide +kernel
theorem dX11_runCommands_51 : decode cX11_runCommands 51 = .ok (.iload_n 3, 1) := by decide +kernel
theorem dX11_runCommands_52 : decode cX11_runCommands 52 = .ok (.ifCond .eq 59, 3) := by decide +kernel
theorem dX11_runCommands_55 : decode cX11_runCommands 55 = .ok (.aload_n 0, 1) := by decide +kernel
theorem dX11_runCommands_56 : decode cX11_runCommands 56 = .ok (.invokevirtual 241, 3) := by decide +kernel
theorem dX11_runCommands_59 : decode cX11_runCommands 59 = .ok (.ifCond .eq 14, 3) := by decide +kernel
theorem dX11_runCommands_62 : decode cX11_runCommands 62 = .ok (.aload_n 0, 1) := by decide +kernel
theorem dX11_runCommands_63 : decode cX11_runCommands 63 = .ok (.invokevirtual 248, 3) := by decide +kernel
theorem dX11_runCommands_66 : decode cX11_runCommands 66 = .ok (.ifCond .ne 7, 3) := by decide +kernel
theorem dX11_runCommands_69 : decode cX11_runCommands 69 = .ok (.iconst 1, 1) := by decide +kernel
theorem dX11_runCommands_70 : decode cX11_runCommands 70 = .ok (.goto 4, 3) := by decide +kernel
theorem dX11_runCommands_73 : decode cX11_runCommands 73 = .ok (.iconst 0, 1) := by decide +kernel
theorem dX11_runCommands_74 : decode cX11_runCommands 74 = .ok (.istore_n 3, 1) := by decide +kernel
theorem dX11_runCommands_75 : decode cX11_runCommands 75 = .ok (.iload_n 2, 1) := by decide +kernel
theorem dX11_runCommands_76 : decode cX11_runCommands 76 = .ok (.iload_n 3, 1) := by decide +kernel
theorem dX11_runCommands_77 : decode cX11_runCommands 77 = .ok (.ifCond .eq 7, 3) := by decide +kernel
theorem dX11_runCommands_80 : decode cX11_runCommands 80 = .ok (.iconst 1, 1) := by decide +kernel
theorem dX11_runCommands_81 : decode cX11_runCommands 81 = .ok (.goto 4, 3) := by decide +kernel
theorem dX11_runCommands_84 : decode cX11_runCommands 84 = .ok (.iconst 0, 1) := by decide +kernel
theorem dX11_runCommands_85 : decode cX11_runCommands 85 = .ok (.iadd, 1) := by decide +kernel
theorem dX11_runCommands_86 : decode cX11_runCommands 86 = .ok (.istore_n 2, 1) := by decide +kernel
theorem dX11_runCommands_87 : decode cX11_runCommands 87 = .ok (.iload_n 3, 1) := by decide +kernel
theorem dX11_runCommands_88 : decode cX11_runCommands 88 = .ok (.ifCond .eq 18, 3) := by decide +kernel
theorem dX11_runCommands_91 : decode cX11_runCommands 91 = .ok (.aload_n 0, 1) := by decide +kernel
theorem dX11_runCommands_92 : decode cX11_runCommands 92 = .ok (.getfield 213, 3) := by decide +kernel
theorem dX11_runCommands_95 : decode cX11_runCommands 95 = .ok (.aload_n 0, 1) := by decide +kernel
theorem dX11_runCommands_96 : decode cX11_runCommands 96 = .ok (.getfield 201, 3) := by decide +kernel
theorem dX11_runCommands_99 : decode cX11_runCommands 99 = .ok (.if_icmp .ge 7, 3) := by decide +kernel
theorem dX11_runCommands_102 : decode cX11_runCommands 102 = .ok (.iconst 1, 1) := by decide +kernel
theorem dX11_runCommands_103 : decode cX11_runCommands 103 = .ok (.goto 4, 3) := by decide +kernel
theorem dX11_runCommands_106 : decode cX11_runCommands 106 = .ok (.iconst 0, 1) := by decide +kernel
theorem dX11_runCommands_107 : decode cX11_runCommands 107 = .ok (.istore_n 3, 1) := by decide +kernel
theorem dX11_runCommands_108 : decode cX11_runCommands 108 = .ok (.goto (-57), 3) := by decide +kernel
theorem dX11_runCommands_111 : decode cX11_runCommands 111 = .ok (.iload_n 2, 1) := by decide +kernel
theorem dX11_runCommands_112 : decode cX11_runCommands 112 = .ok (.ireturn, 1) := by decide +kernel
theorem dX11_digestTrader_0 : decode cX11_digestTrader 0 = .ok (.lload_n 1, 1) := by decide +kernel
theorem dX11_digestTrader_1 : decode cX11_digestTrader 1 = .ok (.lstore 4, 2) := by decide +kernel
theorem dX11_digestTrader_3 : decode cX11_digestTrader 3 = .ok (.iconst 0, 1) := by decide +kernel
theorem dX11_digestTrader_4 : decode cX11_digestTrader 4 = .ok (.istore 6, 2) := by decide +kernel
theorem dX11_digestTrader_6 : decode cX11_digestTrader 6 = .ok (.iload 6, 2) := by decide +kernel
theorem dX11_digestTrader_8 : decode cX11_digestTrader 8 = .ok (.bipush 10, 2) := by decide +kernel
theorem dX11_digestTrader_10 : decode cX11_digestTrader 10 = .ok (.if_icmp .ge 26, 3) := by decide +kernel
theorem dX11_digestTrader_13 : decode cX11_digestTrader 13 = .ok (.ldc2_w 251, 3) := by decide +kernel
theorem dX11_digestTrader_16 : decode cX11_digestTrader 16 = .ok (.lload 4, 2) := by decide +kernel
theorem dX11_digestTrader_18 : decode cX11_digestTrader 18 = .ok (.lmul, 1) := by decide +kernel
theorem dX11_digestTrader_19 : decode cX11_digestTrader 19 = .ok (.aload_n 0, 1) := by decide +kernel
theorem dX11_digestTrader_20 : decode cX11_digestTrader 20 = .ok (.iload_n 3, 1) := by decide +kernel
theorem dX11_digestTrader_21 : decode cX11_digestTrader 21 = .ok (.iload 6, 2) := by decide +kernel
theorem dX11_digestTrader_23 : decode cX11_digestTrader 23 = .ok (.invokevirtual 186, 3) := by decide +kernel
theorem dX11_digestTrader_26 : decode cX11_digestTrader 26 = .ok (.i2l, 1) := by decide +kernel
theorem dX11_digestTrader_27 : decode cX11_digestTrader 27 = .ok (.ladd, 1) := by decide +kernel
theorem dX11_digestTrader_28 : decode cX11_digestTrader 28 = .ok (.lstore 4, 2) := by decide +kernel
theorem dX11_digestTrader_30 : decode cX11_digestTrader 30 = .ok (.iinc 6 1, 3) := by decide +kernel
theorem dX11_digestTrader_33 : decode cX11_digestTrader 33 = .ok (.goto (-27), 3) := by decide +kernel
theorem dX11_digestTrader_36 : decode cX11_digestTrader 36 = .ok (.lload 4, 2) := by decide +kernel
theorem dX11_digestTrader_38 : decode cX11_digestTrader 38 = .ok (.lreturn, 1) := by decide +kernel
theorem dX11_digestOrder_0 : decode cX11_digestOrder 0 = .ok (.ldc2_w 251, 3) := by decide +kernel
theorem dX11_digestOrder_3 : decode cX11_digestOrder 3 = .ok (.lload_n 1, 1) := by decide +kernel
theorem dX11_digestOrder_4 : decode cX11_digestOrder 4 = .ok (.lmul, 1) := by decide +kernel
theorem dX11_digestOrder_5 : decode cX11_digestOrder 5 = .ok (.aload_n 0, 1) := by decide +kernel
theorem dX11_digestOrder_6 : decode cX11_digestOrder 6 = .ok (.iload_n 3, 1) := by decide +kernel
theorem dX11_digestOrder_7 : decode cX11_digestOrder 7 = .ok (.iconst 0, 1) := by decide +kernel
theorem dX11_digestOrder_8 : decode cX11_digestOrder 8 = .ok (.invokevirtual 33, 3) := by decide +kernel
theorem dX11_digestOrder_11 : decode cX11_digestOrder 11 = .ok (.i2l, 1) := by decide +kernel
theorem dX11_digestOrder_12 : decode cX11_digestOrder 12 = .ok (.ladd, 1) := by decide +kernel
theorem dX11_digestOrder_13 : decode cX11_digestOrder 13 = .ok (.lstore 4, 2) := by decide +kernel
theorem dX11_digestOrder_15 : decode cX11_digestOrder 15 = .ok (.iconst 0, 1) := by decide +kernel
theorem dX11_digestOrder_16 : decode cX11_digestOrder 16 = .ok (.istore 6, 2) := by decide +kernel
theorem dX11_digestOrder_18 : decode cX11_digestOrder 18 = .ok (.iload 6, 2) := by decide +kernel
theorem dX11_digestOrder_20 : decode cX11_digestOrder 20 = .ok (.iconst 5, 1) := by decide +kernel
theorem dX11_digestOrder_21 : decode cX11_digestOrder 21 = .ok (.if_icmp .ge 26, 3) := by decide +kernel
theorem dX11_digestOrder_24 : decode cX11_digestOrder 24 = .ok (.ldc2_w 251, 3) := by decide +kernel
theorem dX11_digestOrder_27 : decode cX11_digestOrder 27 = .ok (.lload 4, 2) := by decide +kernel
theorem dX11_digestOrder_29 : decode cX11_digestOrder 29 = .ok (.lmul, 1) := by decide +kernel
theorem dX11_digestOrder_30 : decode cX11_digestOrder 30 = .ok (.aload_n 0, 1) := by decide +kernel
theorem dX11_digestOrder_31 : decode cX11_digestOrder 31 = .ok (.iload_n 3, 1) := by decide +kernel
theorem dX11_digestOrder_32 : decode cX11_digestOrder 32 = .ok (.iload 6, 2) := by decide +kernel
theorem dX11_digestOrder_34 : decode cX11_digestOrder 34 = .ok (.invokevirtual 189, 3) := by decide +kernel
theorem dX11_digestOrder_37 : decode cX11_digestOrder 37 = .ok (.i2l, 1) := by decide +kernel
theorem dX11_digestOrder_38 : decode cX11_digestOrder 38 = .ok (.ladd, 1) := by decide +kernel
theorem dX11_digestOrder_39 : decode cX11_digestOrder 39 = .ok (.lstore 4, 2) := by decide +kernel
theorem dX11_digestOrder_41 : decode cX11_digestOrder 41 = .ok (.iinc 6 1, 3) := by decide +kernel
theorem dX11_digestOrder_44 : decode cX11_digestOrder 44 = .ok (.goto (-26), 3) := by decide +kernel
theorem dX11_digestOrder_47 : decode cX11_digestOrder 47 = .ok (.ldc2_w 251, 3) := by decide +kernel
theorem dX11_digestOrder_50 : decode cX11_digestOrder 50 = .ok (.lload 4, 2) := by decide +kernel
theorem dX11_digestOrder_52 : decode cX11_digestOrder 52 = .ok (.lmul, 1) := by decide +kernel
theorem dX11_digestOrder_53 : decode cX11_digestOrder 53 = .ok (.aload_n 0, 1) := by decide +kernel
theorem dX11_digestOrder_54 : decode cX11_digestOrder 54 = .ok (.iload_n 3, 1) := by decide +kernel
theorem dX11_digestOrder_55 : decode cX11_digestOrder 55 = .ok (.invokevirtual 133, 3) := by decide +kernel
theorem dX11_digestOrder_58 : decode cX11_digestOrder 58 = .ok (.i2l, 1) := by decide +kernel
theorem dX11_digestOrder_59 : decode cX11_digestOrder 59 = .ok (.ladd, 1) := by decide +kernel
theorem dX11_digestOrder_60 : decode cX11_digestOrder 60 = .ok (.lreturn, 1) := by decide +kernel
theorem dX11_digest_0 : decode cX11_digest 0 = .ok (.aload_n 0, 1) := by decide +kernel
theorem dX11_digest_1 : decode cX11_digest 1 = .ok (.iconst 0, 1) := by decide +kernel
theorem dX11_digest_2 : decode cX11_digest 2 = .ok (.putfield 25, 3) := by decide +kernel
theorem dX11_digest_5 : decode cX11_digest 5 = .ok (.ldc2_w 253, 3) := by decide +kernel
theorem dX11_digest_8 : decode cX11_digest 8 = .ok (.aload_n 0, 1) := by decide +kernel
theorem dX11_digest_9 : decode cX11_digest 9 = .ok (.getfield 37, 3) := by decide +kernel
theorem dX11_digest_12 : decode cX11_digest 12 = .ok (.i2l, 1) := by decide +kernel
theorem dX11_digest_13 : decode cX11_digest 13 = .ok (.ladd, 1) := by decide +kernel
theorem dX11_digest_14 : decode cX11_digest 14 = .ok (.lstore_n 1, 1) := by decide +kernel
theorem dX11_digest_15 : decode cX11_digest 15 = .ok (.iconst 0, 1) := by decide +kernel
theorem dX11_digest_16 : decode cX11_digest 16 = .ok (.istore_n 3, 1) := by decide +kernel
theorem dX11_digest_17 : decode cX11_digest 17 = .ok (.iload_n 3, 1) := by decide +kernel
theorem dX11_digest_18 : decode cX11_digest 18 = .ok (.bipush 12, 2) := by decide +kernel
theorem dX11_digest_20 : decode cX11_digest 20 = .ok (.if_icmp .ge 22, 3) := by decide +kernel
theorem dX11_digest_23 : decode cX11_digest 23 = .ok (.ldc2_w 251, 3) := by decide +kernel
theorem dX11_digest_26 : decode cX11_digest 26 = .ok (.lload_n 1, 1) := by decide +kernel
theorem dX11_digest_27 : decode cX11_digest 27 = .ok (.lmul, 1) := by decide +kernel
theorem dX11_digest_28 : decode cX11_digest 28 = .ok (.aload_n 0, 1) := by decide +kernel
theorem dX11_digest_29 : decode cX11_digest 29 = .ok (.iload_n 3, 1) := by decide +kernel
theorem dX11_digest_30 : decode cX11_digest 30 = .ok (.invokevirtual 204, 3) := by decide +kernel
theorem dX11_digest_33 : decode cX11_digest 33 = .ok (.i2l, 1) := by decide +kernel
theorem dX11_digest_34 : decode cX11_digest 34 = .ok (.ladd, 1) := by decide +kernel
theorem dX11_digest_35 : decode cX11_digest 35 = .ok (.lstore_n 1, 1) := by decide +kernel
theorem dX11_digest_36 : decode cX11_digest 36 = .ok (.iinc 3 1, 3) := by decide +kernel
theorem dX11_digest_39 : decode cX11_digest 39 = .ok (.goto (-22), 3) := by decide +kernel
theorem dX11_digest_42 : decode cX11_digest 42 = .ok (.iconst 0, 1) := by decide +kernel
theorem dX11_digest_43 : decode cX11_digest 43 = .ok (.istore_n 3, 1) := by decide +kernel
theorem dX11_digest_44 : decode cX11_digest 44 = .ok (.iload_n 3, 1) := by decide +kernel
theorem dX11_digest_45 : decode cX11_digest 45 = .ok (.bipush 7, 2) := by decide +kernel
theorem dX11_digest_47 : decode cX11_digest 47 = .ok (.if_icmp .ge 22, 3) := by decide +kernel
theorem dX11_digest_50 : decode cX11_digest 50 = .ok (.ldc2_w 251, 3) := by decide +kernel
theorem dX11_digest_53 : decode cX11_digest 53 = .ok (.lload_n 1, 1) := by decide +kernel
theorem dX11_digest_54 : decode cX11_digest 54 = .ok (.lmul, 1) := by decide +kernel
theorem dX11_digest_55 : decode cX11_digest 55 = .ok (.aload_n 0, 1) := by decide +kernel
theorem dX11_digest_56 : decode cX11_digest 56 = .ok (.iload_n 3, 1) := by decide +kernel
theorem dX11_digest_57 : decode cX11_digest 57 = .ok (.invokevirtual 198, 3) := by decide +kernel
theorem dX11_digest_60 : decode cX11_digest 60 = .ok (.i2l, 1) := by decide +kernel
theorem dX11_digest_61 : decode cX11_digest 61 = .ok (.ladd, 1) := by decide +kernel
theorem dX11_digest_62 : decode cX11_digest 62 = .ok (.lstore_n 1, 1) := by decide +kernel
theorem dX11_digest_63 : decode cX11_digest 63 = .ok (.iinc 3 1, 3) := by decide +kernel
theorem dX11_digest_66 : decode cX11_digest 66 = .ok (.goto (-22), 3) := by decide +kernel
theorem dX11_digest_69 : decode cX11_digest 69 = .ok (.iconst 0, 1) := by decide +kernel
theorem dX11_digest_70 : decode cX11_digest 70 = .ok (.istore_n 3, 1) := by decide +kernel
theorem dX11_digest_71 : decode cX11_digest 71 = .ok (.iload_n 3, 1) := by decide +kernel
theorem dX11_digest_72 : decode cX11_digest 72 = .ok (.aload_n 0, 1) := by decide +kernel
theorem dX11_digest_73 : decode cX11_digest 73 = .ok (.getfield 7, 3) := by decide +kernel
theorem dX11_digest_76 : decode cX11_digest 76 = .ok (.iconst 0, 1) := by decide +kernel
theorem dX11_digest_77 : decode cX11_digest 77 = .ok (.iaload, 1) := by decide +kernel
theorem dX11_digest_78 : decode cX11_digest 78 = .ok (.if_icmp .ge 16, 3) := by decide +kernel
theorem dX11_digest_81 : decode cX11_digest 81 = .ok (.aload_n 0, 1) := by decide +kernel
theorem dX11_digest_82 : decode cX11_digest 82 = .ok (.lload_n 1, 1) := by decide +kernel
theorem dX11_digest_83 : decode cX11_digest 83 = .ok (.iload_n 3, 1) := by decide +kernel
theorem dX11_digest_84 : decode cX11_digest 84 = .ok (.invokevirtual 255, 3) := by decide +kernel
theorem dX11_digest_87 : decode cX11_digest 87 = .ok (.lstore_n 1, 1) := by decide +kernel
theorem dX11_digest_88 : decode cX11_digest 88 = .ok (.iinc 3 1, 3) := by decide +kernel
theorem dX11_digest_91 : decode cX11_digest 91 = .ok (.goto (-20), 3) := by decide +kernel
theorem dX11_digest_94 : decode cX11_digest 94 = .ok (.iconst 0, 1) := by decide +kernel
theorem dX11_digest_95 : decode cX11_digest 95 = .ok (.istore_n 3, 1) := by decide +kernel
theorem dX11_digest_96 : decode cX11_digest 96 = .ok (.iload_n 3, 1) := by decide +kernel
theorem dX11_digest_97 : decode cX11_digest 97 = .ok (.aload_n 0, 1) := by decide +kernel
theorem dX11_digest_98 : decode cX11_digest 98 = .ok (.getfield 7, 3) := by decide +kernel
theorem dX11_digest_101 : decode cX11_digest 101 = .ok (.iconst 1, 1) := by decide +kernel
theorem dX11_digest_102 : decode cX11_digest 102 = .ok (.iaload, 1) := by decide +kernel
theorem dX11_digest_103 : decode cX11_digest 103 = .ok (.if_icmp .ge 16, 3) := by decide +kernel
theorem dX11_digest_106 : decode cX11_digest 106 = .ok (.aload_n 0, 1) := by decide +kernel
theorem dX11_digest_107 : decode cX11_digest 107 = .ok (.lload_n 1, 1) := by decide +kernel
theorem dX11_digest_108 : decode cX11_digest 108 = .ok (.iload_n 3, 1) := by decide +kernel
theorem dX11_digest_109 : decode cX11_digest 109 = .ok (.invokevirtual 259, 3) := by decide +kernel
theorem dX11_digest_112 : decode cX11_digest 112 = .ok (.lstore_n 1, 1) := by decide +kernel
theorem dX11_digest_113 : decode cX11_digest 113 = .ok (.iinc 3 1, 3) := by decide +kernel
theorem dX11_digest_116 : decode cX11_digest 116 = .ok (.goto (-20), 3) := by decide +kernel
theorem dX11_digest_119 : decode cX11_digest 119 = .ok (.iconst 0, 1) := by decide +kernel
theorem dX11_digest_120 : decode cX11_digest 120 = .ok (.istore_n 3, 1) := by decide +kernel
theorem dX11_digest_121 : decode cX11_digest 121 = .ok (.iload_n 3, 1) := by decide +kernel
theorem dX11_digest_122 : decode cX11_digest 122 = .ok (.iconst 5, 1) := by decide +kernel
theorem dX11_digest_123 : decode cX11_digest 123 = .ok (.aload_n 0, 1) := by decide +kernel
theorem dX11_digest_124 : decode cX11_digest 124 = .ok (.getfield 7, 3) := by decide +kernel
theorem dX11_digest_127 : decode cX11_digest 127 = .ok (.bipush 9, 2) := by decide +kernel
theorem dX11_digest_129 : decode cX11_digest 129 = .ok (.iaload, 1) := by decide +kernel
theorem dX11_digest_130 : decode cX11_digest 130 = .ok (.imul, 1) := by decide +kernel
theorem dX11_digest_131 : decode cX11_digest 131 = .ok (.if_icmp .ge 27, 3) := by decide +kernel
theorem dX11_digest_134 : decode cX11_digest 134 = .ok (.ldc2_w 251, 3) := by decide +kernel
theorem dX11_digest_137 : decode cX11_digest 137 = .ok (.lload_n 1, 1) := by decide +kernel
theorem dX11_digest_138 : decode cX11_digest 138 = .ok (.lmul, 1) := by decide +kernel
theorem dX11_digest_139 : decode cX11_digest 139 = .ok (.aload_n 0, 1) := by decide +kernel
theorem dX11_digest_140 : decode cX11_digest 140 = .ok (.getfield 7, 3) := by decide +kernel
theorem dX11_digest_143 : decode cX11_digest 143 = .ok (.sipush 167, 3) := by decide +kernel
theorem dX11_digest_146 : decode cX11_digest 146 = .ok (.iload_n 3, 1) := by decide +kernel
theorem dX11_digest_147 : decode cX11_digest 147 = .ok (.iadd, 1) := by decide +kernel
theorem dX11_digest_148 : decode cX11_digest 148 = .ok (.iaload, 1) := by decide +kernel
theorem dX11_digest_149 : decode cX11_digest 149 = .ok (.i2l, 1) := by decide +kernel
theorem dX11_digest_150 : decode cX11_digest 150 = .ok (.ladd, 1) := by decide +kernel
theorem dX11_digest_151 : decode cX11_digest 151 = .ok (.lstore_n 1, 1) := by decide +kernel
theorem dX11_digest_152 : decode cX11_digest 152 = .ok (.iinc 3 1, 3) := by decide +kernel
theorem dX11_digest_155 : decode cX11_digest 155 = .ok (.goto (-34), 3) := by decide +kernel
theorem dX11_digest_158 : decode cX11_digest 158 = .ok (.lload_n 1, 1) := by decide +kernel
theorem dX11_digest_159 : decode cX11_digest 159 = .ok (.lreturn, 1) := by decide +kernel
theorem dJx29ce0_ordinal_8abf5_0 : decode cJx29ce0_ordinal_8abf5 0 = .ok (.aload_n 0, 1) := by decide +kernel
theorem dJx29ce0_ordinal_8abf5_1 : decode cJx29ce0_ordinal_8abf5 1 = .ok (.getfield 7, 3) := by decide +kernel
theorem dJx29ce0_ordinal_8abf5_4 : decode cJx29ce0_ordinal_8abf5 4 = .ok (.ireturn, 1) := by decide +kernel
theorem dJ9_floorMod_7cf53_0 : decode cJ9_floorMod_7cf53 0 = .ok (.iload_n 0, 1) := by decide +kernel
theorem dJ9_floorMod_7cf53_1 : decode cJ9_floorMod_7cf53 1 = .ok (.iload_n 1, 1) := by decide +kernel
theorem dJ9_floorMod_7cf53_2 : decode cJ9_floorMod_7cf53 2 = .ok (.irem, 1) := by decide +kernel
theorem dJ9_floorMod_7cf53_3 : decode cJ9_floorMod_7cf53 3 = .ok (.istore_n 2, 1) := by decide +kernel
theorem dJ9_floorMod_7cf53_4 : decode cJ9_floorMod_7cf53 4 = .ok (.iload_n 0, 1) := by decide +kernel
theorem dJ9_floorMod_7cf53_5 : decode cJ9_floorMod_7cf53 5 = .ok (.iload_n 1, 1) := by decide +kernel
theorem dJ9_floorMod_7cf53_6 : decode cJ9_floorMod_7cf53 6 = .ok (.ixor, 1) := by decide +kernel
theorem dJ9_floorMod_7cf53_7 : decode cJ9_floorMod_7cf53 7 = .ok (.ifCond .ge 11, 3) := by decide +kernel
theorem dJ9_floorMod_7cf53_10 : decode cJ9_floorMod_7cf53 10 = .ok (.iload_n 2, 1) := by decide +kernel
theorem dJ9_floorMod_7cf53_11 : decode cJ9_floorMod_7cf53 11 = .ok (.ifCond .eq 7, 3) := by decide +kernel
theorem dJ9_floorMod_7cf53_14 : decode cJ9_floorMod_7cf53 14 = .ok (.iload_n 2, 1) := by decide +kernel
theorem dJ9_floorMod_7cf53_15 : decode cJ9_floorMod_7cf53 15 = .ok (.iload_n 1, 1) := by decide +kernel
theorem dJ9_floorMod_7cf53_16 : decode cJ9_floorMod_7cf53 16 = .ok (.iadd, 1) := by decide +kernel
theorem dJ9_floorMod_7cf53_17 : decode cJ9_floorMod_7cf53 17 = .ok (.ireturn, 1) := by decide +kernel
theorem dJ9_floorMod_7cf53_18 : decode cJ9_floorMod_7cf53 18 = .ok (.iload_n 2, 1) := by decide +kernel
theorem dJ9_floorMod_7cf53_19 : decode cJ9_floorMod_7cf53 19 = .ok (.ireturn, 1) := by decide +kernel
theorem dJ9_max_7cf53_0 : decode cJ9_max_7cf53 0 = .ok (.iload_n 0, 1) := by decide +kernel
theorem dJ9_max_7cf53_1 : decode cJ9_max_7cf53 1 = .ok (.iload_n 1, 1) := by decide +kernel
theorem dJ9_max_7cf53_2 : decode cJ9_max_7cf53 2 = .ok (.if_icmp .lt 7, 3) := by decide +kernel
theorem dJ9_max_7cf53_5 : decode cJ9_max_7cf53 5 = .ok (.iload_n 0, 1) := by decide +kernel
theorem dJ9_max_7cf53_6 : decode cJ9_max_7cf53 6 = .ok (.goto 4, 3) := by decide +kernel
theorem dJ9_max_7cf53_9 : decode cJ9_max_7cf53 9 = .ok (.iload_n 1, 1) := by decide +kernel
theorem dJ9_max_7cf53_10 : decode cJ9_max_7cf53 10 = .ok (.ireturn, 1) := by decide +kernel
theorem dJ9_min_7cf53_0 : decode cJ9_min_7cf53 0 = .ok (.iload_n 0, 1) := by decide +kernel
theorem dJ9_min_7cf53_1 : decode cJ9_min_7cf53 1 = .ok (.iload_n 1, 1) := by decide +kernel
theorem dJ9_min_7cf53_2 : decode cJ9_min_7cf53 2 = .ok (.if_icmp .gt 7, 3) := by decide +kernel
theorem dJ9_min_7cf53_5 : decode cJ9_min_7cf53 5 = .ok (.iload_n 0, 1) := by decide +kernel
theorem dJ9_min_7cf53_6 : decode cJ9_min_7cf53 6 = .ok (.goto 4, 3) := by decide +kernel
theorem dJ9_min_7cf53_9 : decode cJ9_min_7cf53 9 = .ok (.iload_n 1, 1) := by decide +kernel
theorem dJ9_min_7cf53_10 : decode cJ9_min_7cf53 10 = .ok (.ireturn, 1) := by decide +kernel
theorem dJ0_length_8abf5_0 : decode cJ0_length_8abf5 0 = .ok (.aload_n 0, 1) := by decide +kernel
theorem dJ0_length_8abf5_1 : decode cJ0_length_8abf5 1 = .ok (.getfield 9, 3) := by decide +kernel
theorem dJ0_length_8abf5_4 : decode cJ0_length_8abf5 4 = .ok (.arraylength, 1) := by decide +kernel
theorem dJ0_length_8abf5_5 : decode cJ0_length_8abf5 5 = .ok (.aload_n 0, 1) := by decide +kernel
theorem dJ0_length_8abf5_6 : decode cJ0_length_8abf5 6 = .ok (.invokevirtual 335, 3) := by decide +kernel
theorem dJ0_length_8abf5_9 : decode cJ0_length_8abf5 9 = .ok (.ishr, 1) := by decide +kernel
theorem dJ0_length_8abf5_10 : decode cJ0_length_8abf5 10 = .ok (.ireturn, 1) := by decide +kernel
theorem dJ0_charAt_5068e_0 : decode cJ0_charAt_5068e 0 = .ok (.aload_n 0, 1) := by decide +kernel
theorem dJ0_charAt_5068e_1 : decode cJ0_charAt_5068e 1 = .ok (.invokevirtual 492, 3) := by decide +kernel
theorem dJ0_charAt_5068e_4 : decode cJ0_charAt_5068e 4 = .ok (.ifCond .eq 12, 3) := by decide +kernel
theorem dJ0_charAt_5068e_7 : decode cJ0_charAt_5068e 7 = .ok (.aload_n 0, 1) := by decide +kernel
theorem dJ0_charAt_5068e_8 : decode cJ0_charAt_5068e 8 = .ok (.getfield 9, 3) := by decide +kernel
theorem dJ0_charAt_5068e_11 : decode cJ0_charAt_5068e 11 = .ok (.iload_n 1, 1) := by decide +kernel
theorem dJ0_charAt_5068e_12 : decode cJ0_charAt_5068e 12 = .ok (.invokestatic 495, 3) := by decide +kernel
theorem dJ0_charAt_5068e_15 : decode cJ0_charAt_5068e 15 = .ok (.ireturn, 1) := by decide +kernel
theorem dJ0_charAt_5068e_16 : decode cJ0_charAt_5068e 16 = .ok (.aload_n 0, 1) := by decide +kernel
theorem dJ0_charAt_5068e_17 : decode cJ0_charAt_5068e 17 = .ok (.getfield 9, 3) := by decide +kernel
theorem dJ0_charAt_5068e_20 : decode cJ0_charAt_5068e 20 = .ok (.iload_n 1, 1) := by decide +kernel
theorem dJ0_charAt_5068e_21 : decode cJ0_charAt_5068e 21 = .ok (.invokestatic 498, 3) := by decide +kernel
theorem dJ0_charAt_5068e_24 : decode cJ0_charAt_5068e 24 = .ok (.ireturn, 1) := by decide +kernel
theorem dJ0_coder_7d493_0 : decode cJ0_coder_7d493 0 = .ok (.getstatic 38, 3) := by decide +kernel
theorem dJ0_coder_7d493_3 : decode cJ0_coder_7d493 3 = .ok (.ifCond .eq 10, 3) := by decide +kernel
theorem dJ0_coder_7d493_6 : decode cJ0_coder_7d493 6 = .ok (.aload_n 0, 1) := by decide +kernel
theorem dJ0_coder_7d493_7 : decode cJ0_coder_7d493 7 = .ok (.getfield 15, 3) := by decide +kernel
theorem dJ0_coder_7d493_10 : decode cJ0_coder_7d493 10 = .ok (.goto 4, 3) := by decide +kernel
theorem dJ0_coder_7d493_13 : decode cJ0_coder_7d493 13 = .ok (.iconst 1, 1) := by decide +kernel
theorem dJ0_coder_7d493_14 : decode cJ0_coder_7d493 14 = .ok (.ireturn, 1) := by decide +kernel
theorem dJ0_isLatin1_aae02_0 : decode cJ0_isLatin1_aae02 0 = .ok (.getstatic 38, 3) := by decide +kernel
theorem dJ0_isLatin1_aae02_3 : decode cJ0_isLatin1_aae02 3 = .ok (.ifCond .eq 14, 3) := by decide +kernel
theorem dJ0_isLatin1_aae02_6 : decode cJ0_isLatin1_aae02 6 = .ok (.aload_n 0, 1) := by decide +kernel
theorem dJ0_isLatin1_aae02_7 : decode cJ0_isLatin1_aae02 7 = .ok (.getfield 15, 3) := by decide +kernel
theorem dJ0_isLatin1_aae02_10 : decode cJ0_isLatin1_aae02 10 = .ok (.ifCond .ne 7, 3) := by decide +kernel
theorem dJ0_isLatin1_aae02_13 : decode cJ0_isLatin1_aae02 13 = .ok (.iconst 1, 1) := by decide +kernel
theorem dJ0_isLatin1_aae02_14 : decode cJ0_isLatin1_aae02 14 = .ok (.goto 4, 3) := by decide +kernel
theorem dJ0_isLatin1_aae02_17 : decode cJ0_isLatin1_aae02 17 = .ok (.iconst 0, 1) := by decide +kernel
theorem dJ0_isLatin1_aae02_18 : decode cJ0_isLatin1_aae02 18 = .ok (.ireturn, 1) := by decide +kernel
theorem dJ0_checkIndex_df160_0 : decode cJ0_checkIndex_df160 0 = .ok (.iload_n 0, 1) := by decide +kernel
theorem dJ0_checkIndex_df160_1 : decode cJ0_checkIndex_df160 1 = .ok (.iload_n 1, 1) := by decide +kernel
theorem dJ0_checkIndex_df160_2 : decode cJ0_checkIndex_df160 2 = .ok (.getstatic 1053, 3) := by decide +kernel
theorem dJ0_checkIndex_df160_5 : decode cJ0_checkIndex_df160 5 = .ok (.invokestatic 1059, 3) := by decide +kernel
theorem dJ0_checkIndex_df160_8 : decode cJ0_checkIndex_df160 8 = .ok (.pop, 1) := by decide +kernel
theorem dJ0_checkIndex_df160_9 : decode cJ0_checkIndex_df160 9 = .ok (.return_, 1) := by decide +kernel
theorem dJ1_charAt_3b067_0 : decode cJ1_charAt_3b067 0 = .ok (.iload_n 1, 1) := by decide +kernel
theorem dJ1_charAt_3b067_1 : decode cJ1_charAt_3b067 1 = .ok (.aload_n 0, 1) := by decide +kernel
theorem dJ1_charAt_3b067_2 : decode cJ1_charAt_3b067 2 = .ok (.arraylength, 1) := by decide +kernel
theorem dJ1_charAt_3b067_3 : decode cJ1_charAt_3b067 3 = .ok (.invokestatic 9, 3) := by decide +kernel
theorem dJ1_charAt_3b067_6 : decode cJ1_charAt_3b067 6 = .ok (.aload_n 0, 1) := by decide +kernel
theorem dJ1_charAt_3b067_7 : decode cJ1_charAt_3b067 7 = .ok (.iload_n 1, 1) := by decide +kernel
theorem dJ1_charAt_3b067_8 : decode cJ1_charAt_3b067 8 = .ok (.baload, 1) := by decide +kernel
theorem dJ1_charAt_3b067_9 : decode cJ1_charAt_3b067 9 = .ok (.sipush 255, 3) := by decide +kernel
theorem dJ1_charAt_3b067_12 : decode cJ1_charAt_3b067 12 = .ok (.iand, 1) := by decide +kernel
theorem dJ1_charAt_3b067_13 : decode cJ1_charAt_3b067 13 = .ok (.i2c, 1) := by decide +kernel
theorem dJ1_charAt_3b067_14 : decode cJ1_charAt_3b067 14 = .ok (.ireturn, 1) := by decide +kernel
theorem dJ2_getChar_3b067_0 : decode cJ2_getChar_3b067 0 = .ok (.getstatic 44, 3) := by decide +kernel
theorem dJ2_getChar_3b067_3 : decode cJ2_getChar_3b067 3 = .ok (.ifCond .ne 25, 3) := by decide +kernel
theorem dJ2_getChar_3b067_6 : decode cJ2_getChar_3b067 6 = .ok (.iload_n 1, 1) := by decide +kernel
theorem dJ2_getChar_3b067_7 : decode cJ2_getChar_3b067 7 = .ok (.ifCond .lt 11, 3) := by decide +kernel
theorem dJ2_getChar_3b067_10 : decode cJ2_getChar_3b067 10 = .ok (.iload_n 1, 1) := by decide +kernel
theorem dJ2_getChar_3b067_11 : decode cJ2_getChar_3b067 11 = .ok (.aload_n 0, 1) := by decide +kernel
theorem dJ2_getChar_3b067_12 : decode cJ2_getChar_3b067 12 = .ok (.invokestatic 48, 3) := by decide +kernel
theorem dJ2_getChar_3b067_15 : decode cJ2_getChar_3b067 15 = .ok (.if_icmp .lt 13, 3) := by decide +kernel
theorem dJ2_getChar_3b067_18 : decode cJ2_getChar_3b067 18 = .ok (.new 52, 3) := by decide +kernel
theorem dJ2_getChar_3b067_21 : decode cJ2_getChar_3b067 21 = .ok (.dup, 1) := by decide +kernel
theorem dJ2_getChar_3b067_22 : decode cJ2_getChar_3b067 22 = .ok (.ldc 54, 2) := by decide +kernel
theorem dJ2_getChar_3b067_24 : decode cJ2_getChar_3b067 24 = .ok (.invokespecial 56, 3) := by decide +kernel
theorem dJ2_getChar_3b067_27 : decode cJ2_getChar_3b067 27 = .ok (.athrow, 1) := by decide +kernel
theorem dJ2_getChar_3b067_28 : decode cJ2_getChar_3b067 28 = .ok (.iload_n 1, 1) := by decide +kernel
theorem dJ2_getChar_3b067_29 : decode cJ2_getChar_3b067 29 = .ok (.iconst 1, 1) := by decide +kernel
theorem dJ2_getChar_3b067_30 : decode cJ2_getChar_3b067 30 = .ok (.ishl, 1) := by decide +kernel
theorem dJ2_getChar_3b067_31 : decode cJ2_getChar_3b067 31 = .ok (.istore_n 1, 1) := by decide +kernel
theorem dJ2_getChar_3b067_32 : decode cJ2_getChar_3b067 32 = .ok (.aload_n 0, 1) := by decide +kernel
theorem dJ2_getChar_3b067_33 : decode cJ2_getChar_3b067 33 = .ok (.iload_n 1, 1) := by decide +kernel
theorem dJ2_getChar_3b067_34 : decode cJ2_getChar_3b067 34 = .ok (.iinc 1 1, 3) := by decide +kernel
theorem dJ2_getChar_3b067_37 : decode cJ2_getChar_3b067 37 = .ok (.baload, 1) := by decide +kernel
theorem dJ2_getChar_3b067_38 : decode cJ2_getChar_3b067 38 = .ok (.sipush 255, 3) := by decide +kernel
theorem dJ2_getChar_3b067_41 : decode cJ2_getChar_3b067 41 = .ok (.iand, 1) := by decide +kernel
theorem dJ2_getChar_3b067_42 : decode cJ2_getChar_3b067 42 = .ok (.getstatic 59, 3) := by decide +kernel
theorem dJ2_getChar_3b067_45 : decode cJ2_getChar_3b067 45 = .ok (.ishl, 1) := by decide +kernel
theorem dJ2_getChar_3b067_46 : decode cJ2_getChar_3b067 46 = .ok (.aload_n 0, 1) := by decide +kernel
theorem dJ2_getChar_3b067_47 : decode cJ2_getChar_3b067 47 = .ok (.iload_n 1, 1) := by decide +kernel
theorem dJ2_getChar_3b067_48 : decode cJ2_getChar_3b067 48 = .ok (.baload, 1) := by decide +kernel
theorem dJ2_getChar_3b067_49 : decode cJ2_getChar_3b067 49 = .ok (.sipush 255, 3) := by decide +kernel
theorem dJ2_getChar_3b067_52 : decode cJ2_getChar_3b067 52 = .ok (.iand, 1) := by decide +kernel
theorem dJ2_getChar_3b067_53 : decode cJ2_getChar_3b067 53 = .ok (.getstatic 63, 3) := by decide +kernel
theorem dJ2_getChar_3b067_56 : decode cJ2_getChar_3b067 56 = .ok (.ishl, 1) := by decide +kernel
theorem dJ2_getChar_3b067_57 : decode cJ2_getChar_3b067 57 = .ok (.ior, 1) := by decide +kernel
theorem dJ2_getChar_3b067_58 : decode cJ2_getChar_3b067 58 = .ok (.i2c, 1) := by decide +kernel
theorem dJ2_getChar_3b067_59 : decode cJ2_getChar_3b067 59 = .ok (.ireturn, 1) := by decide +kernel
theorem dJ2_length_9d52b_0 : decode cJ2_length_9d52b 0 = .ok (.aload_n 0, 1) := by decide +kernel
theorem dJ2_length_9d52b_1 : decode cJ2_length_9d52b 1 = .ok (.arraylength, 1) := by decide +kernel
theorem dJ2_length_9d52b_2 : decode cJ2_length_9d52b 2 = .ok (.iconst 1, 1) := by decide +kernel
theorem dJ2_length_9d52b_3 : decode cJ2_length_9d52b 3 = .ok (.ishr, 1) := by decide +kernel
theorem dJ2_length_9d52b_4 : decode cJ2_length_9d52b 4 = .ok (.ireturn, 1) := by decide +kernel
theorem dJ2_charAt_3b067_0 : decode cJ2_charAt_3b067 0 = .ok (.iload_n 1, 1) := by decide +kernel
theorem dJ2_charAt_3b067_1 : decode cJ2_charAt_3b067 1 = .ok (.aload_n 0, 1) := by decide +kernel
theorem dJ2_charAt_3b067_2 : decode cJ2_charAt_3b067 2 = .ok (.invokestatic 67, 3) := by decide +kernel
theorem dJ2_charAt_3b067_5 : decode cJ2_charAt_3b067 5 = .ok (.aload_n 0, 1) := by decide +kernel
theorem dJ2_charAt_3b067_6 : decode cJ2_charAt_3b067 6 = .ok (.iload_n 1, 1) := by decide +kernel
theorem dJ2_charAt_3b067_7 : decode cJ2_charAt_3b067 7 = .ok (.invokestatic 71, 3) := by decide +kernel
theorem dJ2_charAt_3b067_10 : decode cJ2_charAt_3b067 10 = .ok (.ireturn, 1) := by decide +kernel
theorem dJ2_checkIndex_2214a_0 : decode cJ2_checkIndex_2214a 0 = .ok (.iload_n 0, 1) := by decide +kernel
theorem dJ2_checkIndex_2214a_1 : decode cJ2_checkIndex_2214a 1 = .ok (.aload_n 1, 1) := by decide +kernel
theorem dJ2_checkIndex_2214a_2 : decode cJ2_checkIndex_2214a 2 = .ok (.invokestatic 48, 3) := by decide +kernel
theorem dJ2_checkIndex_2214a_5 : decode cJ2_checkIndex_2214a 5 = .ok (.invokestatic 414, 3) := by decide +kernel
theorem dJ2_checkIndex_2214a_8 : decode cJ2_checkIndex_2214a 8 = .ok (.return_, 1) := by decide +kernel
theorem dJ3_checkIndex_8e157_0 : decode cJ3_checkIndex_8e157 0 = .ok (.iload_n 0, 1) := by decide +kernel
theorem dJ3_checkIndex_8e157_1 : decode cJ3_checkIndex_8e157 1 = .ok (.ifCond .lt 8, 3) := by decide +kernel
theorem dJ3_checkIndex_8e157_4 : decode cJ3_checkIndex_8e157 4 = .ok (.iload_n 0, 1) := by decide +kernel
theorem dJ3_checkIndex_8e157_5 : decode cJ3_checkIndex_8e157 5 = .ok (.iload_n 1, 1) := by decide +kernel
theorem dJ3_checkIndex_8e157_6 : decode cJ3_checkIndex_8e157 6 = .ok (.if_icmp .lt 10, 3) := by decide +kernel
theorem dJ3_checkIndex_8e157_9 : decode cJ3_checkIndex_8e157 9 = .ok (.aload_n 2, 1) := by decide +kernel
theorem dJ3_checkIndex_8e157_10 : decode cJ3_checkIndex_8e157 10 = .ok (.iload_n 0, 1) := by decide +kernel
theorem dJ3_checkIndex_8e157_11 : decode cJ3_checkIndex_8e157 11 = .ok (.iload_n 1, 1) := by decide +kernel
theorem dJ3_checkIndex_8e157_12 : decode cJ3_checkIndex_8e157 12 = .ok (.invokestatic 95, 3) := by decide +kernel
theorem dJ3_checkIndex_8e157_15 : decode cJ3_checkIndex_8e157 15 = .ok (.athrow, 1) := by decide +kernel
theorem dJ3_checkIndex_8e157_16 : decode cJ3_checkIndex_8e157 16 = .ok (.iload_n 0, 1) := by decide +kernel
theorem dJ3_checkIndex_8e157_17 : decode cJ3_checkIndex_8e157 17 = .ok (.ireturn, 1) := by decide +kernel
theorem dL_addTrader_0 : decode cL_addTrader 0 = .ok (.aload_n 3, 1) := by decide +kernel
theorem dL_addTrader_1 : decode cL_addTrader 1 = .ok (.iconst 0, 1) := by decide +kernel
theorem dL_addTrader_2 : decode cL_addTrader 2 = .ok (.aload_n 0, 1) := by decide +kernel
theorem dL_addTrader_3 : decode cL_addTrader 3 = .ok (.iload_n 1, 1) := by decide +kernel
theorem dL_addTrader_4 : decode cL_addTrader 4 = .ok (.iload_n 2, 1) := by decide +kernel
theorem dL_addTrader_5 : decode cL_addTrader 5 = .ok (.invokevirtual 7, 3) := by decide +kernel
theorem dL_addTrader_8 : decode cL_addTrader 8 = .ok (.i2l, 1) := by decide +kernel
theorem dL_addTrader_9 : decode cL_addTrader 9 = .ok (.lastore, 1) := by decide +kernel
theorem dL_addTrader_10 : decode cL_addTrader 10 = .ok (.goto 11, 3) := by decide +kernel
theorem dL_addTrader_13 : decode cL_addTrader 13 = .ok (.astore 4, 2) := by decide +kernel
theorem dL_addTrader_15 : decode cL_addTrader 15 = .ok (.iconst 1, 1) := by decide +kernel
theorem dL_addTrader_16 : decode cL_addTrader 16 = .ok (.ireturn, 1) := by decide +kernel
theorem dL_addTrader_17 : decode cL_addTrader 17 = .ok (.astore 4, 2) := by decide +kernel
theorem dL_addTrader_19 : decode cL_addTrader 19 = .ok (.iconst 2, 1) := by decide +kernel
theorem dL_addTrader_20 : decode cL_addTrader 20 = .ok (.ireturn, 1) := by decide +kernel
theorem dL_addTrader_21 : decode cL_addTrader 21 = .ok (.iconst 0, 1) := by decide +kernel
theorem dL_addTrader_22 : decode cL_addTrader 22 = .ok (.ireturn, 1) := by decide +kernel
theorem dL_setValue_0 : decode cL_setValue 0 = .ok (.aload_n 3, 1) := by decide +kernel
theorem dL_setValue_1 : decode cL_setValue 1 = .ok (.iconst 0, 1) := by decide +kernel
theorem dL_setValue_2 : decode cL_setValue 2 = .ok (.aload_n 0, 1) := by decide +kernel
theorem dL_setValue_3 : decode cL_setValue 3 = .ok (.iload_n 1, 1) := by decide +kernel
theorem dL_setValue_4 : decode cL_setValue 4 = .ok (.iload_n 2, 1) := by decide +kernel
theorem dL_setValue_5 : decode cL_setValue 5 = .ok (.invokevirtual 17, 3) := by decide +kernel
theorem dL_setValue_8 : decode cL_setValue 8 = .ok (.i2l, 1) := by decide +kernel
theorem dL_setValue_9 : decode cL_setValue 9 = .ok (.lastore, 1) := by decide +kernel
theorem dL_setValue_10 : decode cL_setValue 10 = .ok (.goto 11, 3) := by decide +kernel
theorem dL_setValue_13 : decode cL_setValue 13 = .ok (.astore 4, 2) := by decide +kernel
theorem dL_setValue_15 : decode cL_setValue 15 = .ok (.iconst 1, 1) := by decide +kernel
theorem dL_setValue_16 : decode cL_setValue 16 = .ok (.ireturn, 1) := by decide +kernel
theorem dL_setValue_17 : decode cL_setValue 17 = .ok (.astore 4, 2) := by decide +kernel
theorem dL_setValue_19 : decode cL_setValue 19 = .ok (.iconst 2, 1) := by decide +kernel
theorem dL_setValue_20 : decode cL_setValue 20 = .ok (.ireturn, 1) := by decide +kernel
theorem dL_setValue_21 : decode cL_setValue 21 = .ok (.iconst 0, 1) := by decide +kernel
theorem dL_setValue_22 : decode cL_setValue 22 = .ok (.ireturn, 1) := by decide +kernel
theorem dL_setShade_0 : decode cL_setShade 0 = .ok (.aload 4, 2) := by decide +kernel
theorem dL_setShade_2 : decode cL_setShade 2 = .ok (.iconst 0, 1) := by decide +kernel
theorem dL_setShade_3 : decode cL_setShade 3 = .ok (.aload_n 0, 1) := by decide +kernel
theorem dL_setShade_4 : decode cL_setShade 4 = .ok (.iload_n 1, 1) := by decide +kernel
theorem dL_setShade_5 : decode cL_setShade 5 = .ok (.iload_n 2, 1) := by decide +kernel
theorem dL_setShade_6 : decode cL_setShade 6 = .ok (.iload_n 3, 1) := by decide +kernel
theorem dL_setShade_7 : decode cL_setShade 7 = .ok (.invokevirtual 22, 3) := by decide +kernel
theorem dL_setShade_10 : decode cL_setShade 10 = .ok (.i2l, 1) := by decide +kernel
theorem dL_setShade_11 : decode cL_setShade 11 = .ok (.lastore, 1) := by decide +kernel
theorem dL_setShade_12 : decode cL_setShade 12 = .ok (.goto 11, 3) := by decide +kernel
theorem dL_setShade_15 : decode cL_setShade 15 = .ok (.astore 5, 2) := by decide +kernel
theorem dL_setShade_17 : decode cL_setShade 17 = .ok (.iconst 1, 1) := by decide +kernel
theorem dL_setShade_18 : decode cL_setShade 18 = .ok (.ireturn, 1) := by decide +kernel
theorem dL_setShade_19 : decode cL_setShade 19 = .ok (.astore 5, 2) := by decide +kernel
theorem dL_setShade_21 : decode cL_setShade 21 = .ok (.iconst 2, 1) := by decide +kernel
theorem dL_setShade_22 : decode cL_setShade 22 = .ok (.ireturn, 1) := by decide +kernel
theorem dL_setShade_23 : decode cL_setShade 23 = .ok (.iconst 0, 1) := by decide +kernel
theorem dL_setShade_24 : decode cL_setShade 24 = .ok (.ireturn, 1) := by decide +kernel
theorem dL_set_0 : decode cL_set 0 = .ok (.aload_n 3, 1) := by decide +kernel
theorem dL_set_1 : decode cL_set 1 = .ok (.iconst 0, 1) := by decide +kernel
theorem dL_set_2 : decode cL_set 2 = .ok (.aload_n 0, 1) := by decide +kernel
theorem dL_set_3 : decode cL_set 3 = .ok (.iload_n 1, 1) := by decide +kernel
theorem dL_set_4 : decode cL_set 4 = .ok (.iload_n 2, 1) := by decide +kernel
theorem dL_set_5 : decode cL_set 5 = .ok (.invokevirtual 26, 3) := by decide +kernel
theorem dL_set_8 : decode cL_set 8 = .ok (.i2l, 1) := by decide +kernel
theorem dL_set_9 : decode cL_set 9 = .ok (.lastore, 1) := by decide +kernel
theorem dL_set_10 : decode cL_set 10 = .ok (.goto 7, 3) := by decide +kernel
theorem dL_set_13 : decode cL_set 13 = .ok (.astore 4, 2) := by decide +kernel
theorem dL_set_15 : decode cL_set 15 = .ok (.iconst 1, 1) := by decide +kernel
theorem dL_set_16 : decode cL_set 16 = .ok (.ireturn, 1) := by decide +kernel
theorem dL_set_17 : decode cL_set 17 = .ok (.iconst 0, 1) := by decide +kernel
theorem dL_set_18 : decode cL_set 18 = .ok (.ireturn, 1) := by decide +kernel
theorem dL_bid_0 : decode cL_bid 0 = .ok (.aload_n 3, 1) := by decide +kernel
theorem dL_bid_1 : decode cL_bid 1 = .ok (.iconst 0, 1) := by decide +kernel
theorem dL_bid_2 : decode cL_bid 2 = .ok (.aload_n 0, 1) := by decide +kernel
theorem dL_bid_3 : decode cL_bid 3 = .ok (.iload_n 1, 1) := by decide +kernel
theorem dL_bid_4 : decode cL_bid 4 = .ok (.iload_n 2, 1) := by decide +kernel
theorem dL_bid_5 : decode cL_bid 5 = .ok (.invokevirtual 29, 3) := by decide +kernel
theorem dL_bid_8 : decode cL_bid 8 = .ok (.i2l, 1) := by decide +kernel
theorem dL_bid_9 : decode cL_bid 9 = .ok (.lastore, 1) := by decide +kernel
theorem dL_bid_10 : decode cL_bid 10 = .ok (.goto 15, 3) := by decide +kernel
theorem dL_bid_13 : decode cL_bid 13 = .ok (.astore 4, 2) := by decide +kernel
theorem dL_bid_15 : decode cL_bid 15 = .ok (.iconst 1, 1) := by decide +kernel
theorem dL_bid_16 : decode cL_bid 16 = .ok (.ireturn, 1) := by decide +kernel
theorem dL_bid_17 : decode cL_bid 17 = .ok (.astore 4, 2) := by decide +kernel
theorem dL_bid_19 : decode cL_bid 19 = .ok (.iconst 2, 1) := by decide +kernel
theorem dL_bid_20 : decode cL_bid 20 = .ok (.ireturn, 1) := by decide +kernel
theorem dL_bid_21 : decode cL_bid 21 = .ok (.astore 4, 2) := by decide +kernel
theorem dL_bid_23 : decode cL_bid 23 = .ok (.iconst 3, 1) := by decide +kernel
theorem dL_bid_24 : decode cL_bid 24 = .ok (.ireturn, 1) := by decide +kernel
theorem dL_bid_25 : decode cL_bid 25 = .ok (.iconst 0, 1) := by decide +kernel
theorem dL_bid_26 : decode cL_bid 26 = .ok (.ireturn, 1) := by decide +kernel
theorem dL_order_0 : decode cL_order 0 = .ok (.aload 4, 2) := by decide +kernel
theorem dL_order_2 : decode cL_order 2 = .ok (.iconst 0, 1) := by decide +kernel
theorem dL_order_3 : decode cL_order 3 = .ok (.aload_n 0, 1) := by decide +kernel
theorem dL_order_4 : decode cL_order 4 = .ok (.iload_n 1, 1) := by decide +kernel
theorem dL_order_5 : decode cL_order 5 = .ok (.iload_n 2, 1) := by decide +kernel
theorem dL_order_6 : decode cL_order 6 = .ok (.iload_n 3, 1) := by decide +kernel
theorem dL_order_7 : decode cL_order 7 = .ok (.invokevirtual 32, 3) := by decide +kernel
theorem dL_order_10 : decode cL_order 10 = .ok (.i2l, 1) := by decide +kernel
theorem dL_order_11 : decode cL_order 11 = .ok (.lastore, 1) := by decide +kernel
theorem dL_order_12 : decode cL_order 12 = .ok (.goto 15, 3) := by decide +kernel
theorem dL_order_15 : decode cL_order 15 = .ok (.astore 5, 2) := by decide +kernel
theorem dL_order_17 : decode cL_order 17 = .ok (.iconst 1, 1) := by decide +kernel
theorem dL_order_18 : decode cL_order 18 = .ok (.ireturn, 1) := by decide +kernel
theorem dL_order_19 : decode cL_order 19 = .ok (.astore 5, 2) := by decide +kernel
theorem dL_order_21 : decode cL_order 21 = .ok (.iconst 2, 1) := by decide +kernel
theorem dL_order_22 : decode cL_order 22 = .ok (.ireturn, 1) := by decide +kernel
theorem dL_order_23 : decode cL_order 23 = .ok (.astore 5, 2) := by decide +kernel
theorem dL_order_25 : decode cL_order 25 = .ok (.iconst 3, 1) := by decide +kernel
theorem dL_order_26 : decode cL_order 26 = .ok (.ireturn, 1) := by decide +kernel
theorem dL_order_27 : decode cL_order 27 = .ok (.iconst 0, 1) := by decide +kernel
theorem dL_order_28 : decode cL_order 28 = .ok (.ireturn, 1) := by decide +kernel
theorem dL_cancel_0 : decode cL_cancel 0 = .ok (.aload_n 2, 1) := by decide +kernel
theorem dL_cancel_1 : decode cL_cancel 1 = .ok (.iconst 0, 1) := by decide +kernel
theorem dL_cancel_2 : decode cL_cancel 2 = .ok (.aload_n 0, 1) := by decide +kernel
theorem dL_cancel_3 : decode cL_cancel 3 = .ok (.iload_n 1, 1) := by decide +kernel
theorem dL_cancel_4 : decode cL_cancel 4 = .ok (.invokevirtual 35, 3) := by decide +kernel
theorem dL_cancel_7 : decode cL_cancel 7 = .ok (.i2l, 1) := by decide +kernel
theorem dL_cancel_8 : decode cL_cancel 8 = .ok (.lastore, 1) := by decide +kernel
theorem dL_cancel_9 : decode cL_cancel 9 = .ok (.goto 6, 3) := by decide +kernel
theorem dL_cancel_12 : decode cL_cancel 12 = .ok (.astore_n 3, 1) := by decide +kernel
theorem dL_cancel_13 : decode cL_cancel 13 = .ok (.iconst 1, 1) := by decide +kernel
theorem dL_cancel_14 : decode cL_cancel 14 = .ok (.ireturn, 1) := by decide +kernel
theorem dL_cancel_15 : decode cL_cancel 15 = .ok (.iconst 0, 1) := by decide +kernel
theorem dL_cancel_16 : decode cL_cancel 16 = .ok (.ireturn, 1) := by decide +kernel
theorem dL_clear_0 : decode cL_clear 0 = .ok (.aload_n 1, 1) := by decide +kernel
theorem dL_clear_1 : decode cL_clear 1 = .ok (.iconst 0, 1) := by decide +kernel
theorem dL_clear_2 : decode cL_clear 2 = .ok (.aload_n 0, 1) := by decide +kernel
theorem dL_clear_3 : decode cL_clear 3 = .ok (.invokevirtual 39, 3) := by decide +kernel
theorem dL_clear_6 : decode cL_clear 6 = .ok (.i2l, 1) := by decide +kernel
theorem dL_clear_7 : decode cL_clear 7 = .ok (.lastore, 1) := by decide +kernel
theorem dL_clear_8 : decode cL_clear 8 = .ok (.goto 6, 3) := by decide +kernel
theorem dL_clear_11 : decode cL_clear 11 = .ok (.astore_n 2, 1) := by decide +kernel
theorem dL_clear_12 : decode cL_clear 12 = .ok (.iconst 1, 1) := by decide +kernel
theorem dL_clear_13 : decode cL_clear 13 = .ok (.ireturn, 1) := by decide +kernel
theorem dL_clear_14 : decode cL_clear 14 = .ok (.iconst 0, 1) := by decide +kernel
theorem dL_clear_15 : decode cL_clear 15 = .ok (.ireturn, 1) := by decide +kernel
theorem dL_trader_0 : decode cL_trader 0 = .ok (.aload_n 3, 1) := by decide +kernel
theorem dL_trader_1 : decode cL_trader 1 = .ok (.iconst 0, 1) := by decide +kernel
theorem dL_trader_2 : decode cL_trader 2 = .ok (.aload_n 0, 1) := by decide +kernel
theorem dL_trader_3 : decode cL_trader 3 = .ok (.iload_n 1, 1) := by decide +kernel
theorem dL_trader_4 : decode cL_trader 4 = .ok (.iload_n 2, 1) := by decide +kernel
theorem dL_trader_5 : decode cL_trader 5 = .ok (.invokevirtual 43, 3) := by decide +kernel
theorem dL_trader_8 : decode cL_trader 8 = .ok (.i2l, 1) := by decide +kernel
theorem dL_trader_9 : decode cL_trader 9 = .ok (.lastore, 1) := by decide +kernel
theorem dL_trader_10 : decode cL_trader 10 = .ok (.goto 11, 3) := by decide +kernel
theorem dL_trader_13 : decode cL_trader 13 = .ok (.astore 4, 2) := by decide +kernel
theorem dL_trader_15 : decode cL_trader 15 = .ok (.iconst 1, 1) := by decide +kernel
theorem dL_trader_16 : decode cL_trader 16 = .ok (.ireturn, 1) := by decide +kernel
theorem dL_trader_17 : decode cL_trader 17 = .ok (.astore 4, 2) := by decide +kernel
theorem dL_trader_19 : decode cL_trader 19 = .ok (.iconst 2, 1) := by decide +kernel
theorem dL_trader_20 : decode cL_trader 20 = .ok (.ireturn, 1) := by decide +kernel
theorem dL_trader_21 : decode cL_trader 21 = .ok (.iconst 0, 1) := by decide +kernel
theorem dL_trader_22 : decode cL_trader 22 = .ok (.ireturn, 1) := by decide +kernel
theorem dL_orderOf_0 : decode cL_orderOf 0 = .ok (.aload_n 3, 1) := by decide +kernel
theorem dL_orderOf_1 : decode cL_orderOf 1 = .ok (.iconst 0, 1) := by decide +kernel
theorem dL_orderOf_2 : decode cL_orderOf 2 = .ok (.aload_n 0, 1) := by decide +kernel
theorem dL_orderOf_3 : decode cL_orderOf 3 = .ok (.iload_n 1, 1) := by decide +kernel
theorem dL_orderOf_4 : decode cL_orderOf 4 = .ok (.iload_n 2, 1) := by decide +kernel
theorem dL_orderOf_5 : decode cL_orderOf 5 = .ok (.invokevirtual 46, 3) := by decide +kernel
theorem dL_orderOf_8 : decode cL_orderOf 8 = .ok (.i2l, 1) := by decide +kernel
theorem dL_orderOf_9 : decode cL_orderOf 9 = .ok (.lastore, 1) := by decide +kernel
theorem dL_orderOf_10 : decode cL_orderOf 10 = .ok (.goto 11, 3) := by decide +kernel
theorem dL_orderOf_13 : decode cL_orderOf 13 = .ok (.astore 4, 2) := by decide +kernel
theorem dL_orderOf_15 : decode cL_orderOf 15 = .ok (.iconst 1, 1) := by decide +kernel
theorem dL_orderOf_16 : decode cL_orderOf 16 = .ok (.ireturn, 1) := by decide +kernel
theorem dL_orderOf_17 : decode cL_orderOf 17 = .ok (.astore 4, 2) := by decide +kernel
theorem dL_orderOf_19 : decode cL_orderOf 19 = .ok (.iconst 2, 1) := by decide +kernel
theorem dL_orderOf_20 : decode cL_orderOf 20 = .ok (.ireturn, 1) := by decide +kernel
theorem dL_orderOf_21 : decode cL_orderOf 21 = .ok (.iconst 0, 1) := by decide +kernel
theorem dL_orderOf_22 : decode cL_orderOf 22 = .ok (.ireturn, 1) := by decide +kernel
theorem dL_trade_0 : decode cL_trade 0 = .ok (.aload_n 3, 1) := by decide +kernel
theorem dL_trade_1 : decode cL_trade 1 = .ok (.iconst 0, 1) := by decide +kernel
theorem dL_trade_2 : decode cL_trade 2 = .ok (.aload_n 0, 1) := by decide +kernel
theorem dL_trade_3 : decode cL_trade 3 = .ok (.iload_n 1, 1) := by decide +kernel
theorem dL_trade_4 : decode cL_trade 4 = .ok (.iload_n 2, 1) := by decide +kernel
theorem dL_trade_5 : decode cL_trade 5 = .ok (.invokevirtual 49, 3) := by decide +kernel
theorem dL_trade_8 : decode cL_trade 8 = .ok (.i2l, 1) := by decide +kernel
theorem dL_trade_9 : decode cL_trade 9 = .ok (.lastore, 1) := by decide +kernel
theorem dL_trade_10 : decode cL_trade 10 = .ok (.goto 7, 3) := by decide +kernel
theorem dL_trade_13 : decode cL_trade 13 = .ok (.astore 4, 2) := by decide +kernel
theorem dL_trade_15 : decode cL_trade 15 = .ok (.iconst 1, 1) := by decide +kernel
theorem dL_trade_16 : decode cL_trade 16 = .ok (.ireturn, 1) := by decide +kernel
theorem dL_trade_17 : decode cL_trade 17 = .ok (.iconst 0, 1) := by decide +kernel
theorem dL_trade_18 : decode cL_trade 18 = .ok (.ireturn, 1) := by decide +kernel
theorem dL_at_0 : decode cL_at 0 = .ok (.aload_n 3, 1) := by decide +kernel
theorem dL_at_1 : decode cL_at 1 = .ok (.iconst 0, 1) := by decide +kernel
theorem dL_at_2 : decode cL_at 2 = .ok (.aload_n 0, 1) := by decide +kernel
theorem dL_at_3 : decode cL_at 3 = .ok (.iload_n 1, 1) := by decide +kernel
theorem dL_at_4 : decode cL_at 4 = .ok (.iload_n 2, 1) := by decide +kernel
theorem dL_at_5 : decode cL_at 5 = .ok (.invokevirtual 52, 3) := by decide +kernel
theorem dL_at_8 : decode cL_at 8 = .ok (.i2l, 1) := by decide +kernel
theorem dL_at_9 : decode cL_at 9 = .ok (.lastore, 1) := by decide +kernel
theorem dL_at_10 : decode cL_at 10 = .ok (.goto 7, 3) := by decide +kernel
theorem dL_at_13 : decode cL_at 13 = .ok (.astore 4, 2) := by decide +kernel
theorem dL_at_15 : decode cL_at 15 = .ok (.iconst 1, 1) := by decide +kernel
theorem dL_at_16 : decode cL_at 16 = .ok (.ireturn, 1) := by decide +kernel
theorem dL_at_17 : decode cL_at 17 = .ok (.iconst 0, 1) := by decide +kernel
theorem dL_at_18 : decode cL_at 18 = .ok (.ireturn, 1) := by decide +kernel
theorem dL_now_0 : decode cL_now 0 = .ok (.aload_n 2, 1) := by decide +kernel
theorem dL_now_1 : decode cL_now 1 = .ok (.iconst 0, 1) := by decide +kernel
theorem dL_now_2 : decode cL_now 2 = .ok (.aload_n 0, 1) := by decide +kernel
theorem dL_now_3 : decode cL_now 3 = .ok (.iload_n 1, 1) := by decide +kernel
theorem dL_now_4 : decode cL_now 4 = .ok (.invokevirtual 55, 3) := by decide +kernel
theorem dL_now_7 : decode cL_now 7 = .ok (.i2l, 1) := by decide +kernel
theorem dL_now_8 : decode cL_now 8 = .ok (.lastore, 1) := by decide +kernel
theorem dL_now_9 : decode cL_now 9 = .ok (.goto 6, 3) := by decide +kernel
theorem dL_now_12 : decode cL_now 12 = .ok (.astore_n 3, 1) := by decide +kernel
theorem dL_now_13 : decode cL_now 13 = .ok (.iconst 1, 1) := by decide +kernel
theorem dL_now_14 : decode cL_now 14 = .ok (.ireturn, 1) := by decide +kernel
theorem dL_now_15 : decode cL_now 15 = .ok (.iconst 0, 1) := by decide +kernel
theorem dL_now_16 : decode cL_now 16 = .ok (.ireturn, 1) := by decide +kernel
theorem dL_whole_0 : decode cL_whole 0 = .ok (.aload_n 2, 1) := by decide +kernel
theorem dL_whole_1 : decode cL_whole 1 = .ok (.iconst 0, 1) := by decide +kernel
theorem dL_whole_2 : decode cL_whole 2 = .ok (.aload_n 0, 1) := by decide +kernel
theorem dL_whole_3 : decode cL_whole 3 = .ok (.iload_n 1, 1) := by decide +kernel
theorem dL_whole_4 : decode cL_whole 4 = .ok (.invokevirtual 58, 3) := by decide +kernel
theorem dL_whole_7 : decode cL_whole 7 = .ok (.i2l, 1) := by decide +kernel
theorem dL_whole_8 : decode cL_whole 8 = .ok (.lastore, 1) := by decide +kernel
theorem dL_whole_9 : decode cL_whole 9 = .ok (.goto 6, 3) := by decide +kernel
theorem dL_whole_12 : decode cL_whole 12 = .ok (.astore_n 3, 1) := by decide +kernel
theorem dL_whole_13 : decode cL_whole 13 = .ok (.iconst 1, 1) := by decide +kernel
theorem dL_whole_14 : decode cL_whole 14 = .ok (.ireturn, 1) := by decide +kernel
theorem dL_whole_15 : decode cL_whole 15 = .ok (.iconst 0, 1) := by decide +kernel
theorem dL_whole_16 : decode cL_whole 16 = .ok (.ireturn, 1) := by decide +kernel
theorem dL_filled_0 : decode cL_filled 0 = .ok (.aload_n 2, 1) := by decide +kernel
theorem dL_filled_1 : decode cL_filled 1 = .ok (.iconst 0, 1) := by decide +kernel
theorem dL_filled_2 : decode cL_filled 2 = .ok (.aload_n 0, 1) := by decide +kernel
theorem dL_filled_3 : decode cL_filled 3 = .ok (.iload_n 1, 1) := by decide +kernel
theorem dL_filled_4 : decode cL_filled 4 = .ok (.invokevirtual 61, 3) := by decide +kernel
theorem dL_filled_7 : decode cL_filled 7 = .ok (.i2l, 1) := by decide +kernel
theorem dL_filled_8 : decode cL_filled 8 = .ok (.lastore, 1) := by decide +kernel
theorem dL_filled_9 : decode cL_filled 9 = .ok (.goto 6, 3) := by decide +kernel
theorem dL_filled_12 : decode cL_filled 12 = .ok (.astore_n 3, 1) := by decide +kernel
theorem dL_filled_13 : decode cL_filled 13 = .ok (.iconst 1, 1) := by decide +kernel
theorem dL_filled_14 : decode cL_filled 14 = .ok (.ireturn, 1) := by decide +kernel
theorem dL_filled_15 : decode cL_filled 15 = .ok (.iconst 0, 1) := by decide +kernel
theorem dL_filled_16 : decode cL_filled 16 = .ok (.ireturn, 1) := by decide +kernel
theorem dL_reason_0 : decode cL_reason 0 = .ok (.aload_n 2, 1) := by decide +kernel
theorem dL_reason_1 : decode cL_reason 1 = .ok (.iconst 0, 1) := by decide +kernel
theorem dL_reason_2 : decode cL_reason 2 = .ok (.aload_n 0, 1) := by decide +kernel
theorem dL_reason_3 : decode cL_reason 3 = .ok (.iload_n 1, 1) := by decide +kernel
theorem dL_reason_4 : decode cL_reason 4 = .ok (.invokevirtual 64, 3) := by decide +kernel
theorem dL_reason_7 : decode cL_reason 7 = .ok (.i2l, 1) := by decide +kernel
theorem dL_reason_8 : decode cL_reason 8 = .ok (.lastore, 1) := by decide +kernel
theorem dL_reason_9 : decode cL_reason 9 = .ok (.goto 6, 3) := by decide +kernel
theorem dL_reason_12 : decode cL_reason 12 = .ok (.astore_n 3, 1) := by decide +kernel
theorem dL_reason_13 : decode cL_reason 13 = .ok (.iconst 1, 1) := by decide +kernel
theorem dL_reason_14 : decode cL_reason 14 = .ok (.ireturn, 1) := by decide +kernel
theorem dL_reason_15 : decode cL_reason 15 = .ok (.iconst 0, 1) := by decide +kernel
theorem dL_reason_16 : decode cL_reason 16 = .ok (.ireturn, 1) := by decide +kernel
theorem dL_gainWith_0 : decode cL_gainWith 0 = .ok (.aload_n 3, 1) := by decide +kernel
theorem dL_gainWith_1 : decode cL_gainWith 1 = .ok (.iconst 0, 1) := by decide +kernel
theorem dL_gainWith_2 : decode cL_gainWith 2 = .ok (.aload_n 0, 1) := by decide +kernel
theorem dL_gainWith_3 : decode cL_gainWith 3 = .ok (.iload_n 1, 1) := by decide +kernel
theorem dL_gainWith_4 : decode cL_gainWith 4 = .ok (.iload_n 2, 1) := by decide +kernel
theorem dL_gainWith_5 : decode cL_gainWith 5 = .ok (.invokevirtual 67, 3) := by decide +kernel
theorem dL_gainWith_8 : decode cL_gainWith 8 = .ok (.i2l, 1) := by decide +kernel
theorem dL_gainWith_9 : decode cL_gainWith 9 = .ok (.lastore, 1) := by decide +kernel
theorem dL_gainWith_10 : decode cL_gainWith 10 = .ok (.goto 11, 3) := by decide +kernel
theorem dL_gainWith_13 : decode cL_gainWith 13 = .ok (.astore 4, 2) := by decide +kernel
theorem dL_gainWith_15 : decode cL_gainWith 15 = .ok (.iconst 1, 1) := by decide +kernel
theorem dL_gainWith_16 : decode cL_gainWith 16 = .ok (.ireturn, 1) := by decide +kernel
theorem dL_gainWith_17 : decode cL_gainWith 17 = .ok (.astore 4, 2) := by decide +kernel
theorem dL_gainWith_19 : decode cL_gainWith 19 = .ok (.iconst 2, 1) := by decide +kernel
theorem dL_gainWith_20 : decode cL_gainWith 20 = .ok (.ireturn, 1) := by decide +kernel
theorem dL_gainWith_21 : decode cL_gainWith 21 = .ok (.iconst 0, 1) := by decide +kernel
theorem dL_gainWith_22 : decode cL_gainWith 22 = .ok (.ireturn, 1) := by decide +kernel
theorem dL_bestShade_0 : decode cL_bestShade 0 = .ok (.aload_n 2, 1) := by decide +kernel
theorem dL_bestShade_1 : decode cL_bestShade 1 = .ok (.iconst 0, 1) := by decide +kernel
theorem dL_bestShade_2 : decode cL_bestShade 2 = .ok (.aload_n 0, 1) := by decide +kernel
theorem dL_bestShade_3 : decode cL_bestShade 3 = .ok (.iload_n 1, 1) := by decide +kernel
theorem dL_bestShade_4 : decode cL_bestShade 4 = .ok (.invokevirtual 70, 3) := by decide +kernel
theorem dL_bestShade_7 : decode cL_bestShade 7 = .ok (.i2l, 1) := by decide +kernel
theorem dL_bestShade_8 : decode cL_bestShade 8 = .ok (.lastore, 1) := by decide +kernel
theorem dL_bestShade_9 : decode cL_bestShade 9 = .ok (.goto 6, 3) := by decide +kernel
theorem dL_bestShade_12 : decode cL_bestShade 12 = .ok (.astore_n 3, 1) := by decide +kernel
theorem dL_bestShade_13 : decode cL_bestShade 13 = .ok (.iconst 1, 1) := by decide +kernel
theorem dL_bestShade_14 : decode cL_bestShade 14 = .ok (.ireturn, 1) := by decide +kernel
theorem dL_bestShade_15 : decode cL_bestShade 15 = .ok (.iconst 0, 1) := by decide +kernel
theorem dL_bestShade_16 : decode cL_bestShade 16 = .ok (.ireturn, 1) := by decide +kernel
theorem dL_bestSplit_0 : decode cL_bestSplit 0 = .ok (.aload_n 2, 1) := by decide +kernel
theorem dL_bestSplit_1 : decode cL_bestSplit 1 = .ok (.iconst 0, 1) := by decide +kernel
theorem dL_bestSplit_2 : decode cL_bestSplit 2 = .ok (.aload_n 0, 1) := by decide +kernel
theorem dL_bestSplit_3 : decode cL_bestSplit 3 = .ok (.iload_n 1, 1) := by decide +kernel
theorem dL_bestSplit_4 : decode cL_bestSplit 4 = .ok (.invokevirtual 73, 3) := by decide +kernel
theorem dL_bestSplit_7 : decode cL_bestSplit 7 = .ok (.i2l, 1) := by decide +kernel
theorem dL_bestSplit_8 : decode cL_bestSplit 8 = .ok (.lastore, 1) := by decide +kernel
theorem dL_bestSplit_9 : decode cL_bestSplit 9 = .ok (.goto 6, 3) := by decide +kernel
theorem dL_bestSplit_12 : decode cL_bestSplit 12 = .ok (.astore_n 3, 1) := by decide +kernel
theorem dL_bestSplit_13 : decode cL_bestSplit 13 = .ok (.iconst 1, 1) := by decide +kernel
theorem dL_bestSplit_14 : decode cL_bestSplit 14 = .ok (.ireturn, 1) := by decide +kernel
theorem dL_bestSplit_15 : decode cL_bestSplit 15 = .ok (.iconst 0, 1) := by decide +kernel
theorem dL_bestSplit_16 : decode cL_bestSplit 16 = .ok (.ireturn, 1) := by decide +kernel
theorem dL_goneIn_0 : decode cL_goneIn 0 = .ok (.aload_n 2, 1) := by decide +kernel
theorem dL_goneIn_1 : decode cL_goneIn 1 = .ok (.iconst 0, 1) := by decide +kernel
theorem dL_goneIn_2 : decode cL_goneIn 2 = .ok (.aload_n 0, 1) := by decide +kernel
theorem dL_goneIn_3 : decode cL_goneIn 3 = .ok (.iload_n 1, 1) := by decide +kernel
theorem dL_goneIn_4 : decode cL_goneIn 4 = .ok (.invokevirtual 76, 3) := by decide +kernel
theorem dL_goneIn_7 : decode cL_goneIn 7 = .ok (.i2l, 1) := by decide +kernel
theorem dL_goneIn_8 : decode cL_goneIn 8 = .ok (.lastore, 1) := by decide +kernel
theorem dL_goneIn_9 : decode cL_goneIn 9 = .ok (.goto 6, 3) := by decide +kernel
theorem dL_goneIn_12 : decode cL_goneIn 12 = .ok (.astore_n 3, 1) := by decide +kernel
theorem dL_goneIn_13 : decode cL_goneIn 13 = .ok (.iconst 1, 1) := by decide +kernel
theorem dL_goneIn_14 : decode cL_goneIn 14 = .ok (.ireturn, 1) := by decide +kernel
theorem dL_goneIn_15 : decode cL_goneIn 15 = .ok (.iconst 0, 1) := by decide +kernel
theorem dL_goneIn_16 : decode cL_goneIn 16 = .ok (.ireturn, 1) := by decide +kernel
theorem dL_type_0 : decode cL_type 0 = .ok (.aload_n 2, 1) := by decide +kernel
theorem dL_type_1 : decode cL_type 1 = .ok (.iconst 0, 1) := by decide +kernel
theorem dL_type_2 : decode cL_type 2 = .ok (.aload_n 0, 1) := by decide +kernel
theorem dL_type_3 : decode cL_type 3 = .ok (.iload_n 1, 1) := by decide +kernel
theorem dL_type_4 : decode cL_type 4 = .ok (.invokevirtual 79, 3) := by decide +kernel
theorem dL_type_7 : decode cL_type 7 = .ok (.i2l, 1) := by decide +kernel
theorem dL_type_8 : decode cL_type 8 = .ok (.lastore, 1) := by decide +kernel
theorem dL_type_9 : decode cL_type 9 = .ok (.goto 9, 3) := by decide +kernel
theorem dL_type_12 : decode cL_type 12 = .ok (.astore_n 3, 1) := by decide +kernel
theorem dL_type_13 : decode cL_type 13 = .ok (.iconst 1, 1) := by decide +kernel
theorem dL_type_14 : decode cL_type 14 = .ok (.ireturn, 1) := by decide +kernel
theorem dL_type_15 : decode cL_type 15 = .ok (.astore_n 3, 1) := by decide +kernel
theorem dL_type_16 : decode cL_type 16 = .ok (.iconst 2, 1) := by decide +kernel
theorem dL_type_17 : decode cL_type 17 = .ok (.ireturn, 1) := by decide +kernel
theorem dL_type_18 : decode cL_type 18 = .ok (.iconst 0, 1) := by decide +kernel
theorem dL_type_19 : decode cL_type 19 = .ok (.ireturn, 1) := by decide +kernel
theorem dL_undo_0 : decode cL_undo 0 = .ok (.aload_n 1, 1) := by decide +kernel
theorem dL_undo_1 : decode cL_undo 1 = .ok (.iconst 0, 1) := by decide +kernel
theorem dL_undo_2 : decode cL_undo 2 = .ok (.aload_n 0, 1) := by decide +kernel
theorem dL_undo_3 : decode cL_undo 3 = .ok (.invokevirtual 82, 3) := by decide +kernel
theorem dL_undo_6 : decode cL_undo 6 = .ok (.i2l, 1) := by decide +kernel
theorem dL_undo_7 : decode cL_undo 7 = .ok (.lastore, 1) := by decide +kernel
theorem dL_undo_8 : decode cL_undo 8 = .ok (.goto 6, 3) := by decide +kernel
theorem dL_undo_11 : decode cL_undo 11 = .ok (.astore_n 2, 1) := by decide +kernel
theorem dL_undo_12 : decode cL_undo 12 = .ok (.iconst 1, 1) := by decide +kernel
theorem dL_undo_13 : decode cL_undo 13 = .ok (.ireturn, 1) := by decide +kernel
theorem dL_undo_14 : decode cL_undo 14 = .ok (.iconst 0, 1) := by decide +kernel
theorem dL_undo_15 : decode cL_undo 15 = .ok (.ireturn, 1) := by decide +kernel
theorem dL_law_0 : decode cL_law 0 = .ok (.new 8, 3) := by decide +kernel
theorem dL_law_3 : decode cL_law 3 = .ok (.dup, 1) := by decide +kernel
theorem dL_law_4 : decode cL_law 4 = .ok (.invokespecial 85, 3) := by decide +kernel
theorem dL_law_7 : decode cL_law 7 = .ok (.astore_n 1, 1) := by decide +kernel
theorem dL_law_8 : decode cL_law 8 = .ok (.new 86, 3) := by decide +kernel
theorem dL_law_11 : decode cL_law 11 = .ok (.dup, 1) := by decide +kernel
theorem dL_law_12 : decode cL_law 12 = .ok (.invokespecial 88, 3) := by decide +kernel
theorem dL_law_15 : decode cL_law 15 = .ok (.astore_n 2, 1) := by decide +kernel
theorem dL_law_16 : decode cL_law 16 = .ok (.iconst 1, 1) := by decide +kernel
theorem dL_law_17 : decode cL_law 17 = .ok (.newarray .long, 2) := by decide +kernel
theorem dL_law_19 : decode cL_law 19 = .ok (.astore_n 3, 1) := by decide +kernel
theorem dL_law_20 : decode cL_law 20 = .ok (.iconst 0, 1) := by decide +kernel
theorem dL_law_21 : decode cL_law 21 = .ok (.istore 4, 2) := by decide +kernel
theorem dL_law_23 : decode cL_law 23 = .ok (.iload 4, 2) := by decide +kernel
theorem dL_law_25 : decode cL_law 25 = .ok (.aload_n 0, 1) := by decide +kernel
theorem dL_law_26 : decode cL_law 26 = .ok (.arraylength, 1) := by decide +kernel
theorem dL_law_27 : decode cL_law 27 = .ok (.iconst 4, 1) := by decide +kernel
theorem dL_law_28 : decode cL_law 28 = .ok (.isub, 1) := by decide +kernel
theorem dL_law_29 : decode cL_law 29 = .ok (.if_icmp .gt 1533, 3) := by decide +kernel
theorem dL_law_32 : decode cL_law 32 = .ok (.aload_n 0, 1) := by decide +kernel
theorem dL_law_33 : decode cL_law 33 = .ok (.iload 4, 2) := by decide +kernel
theorem dL_law_35 : decode cL_law 35 = .ok (.iaload, 1) := by decide +kernel
theorem dL_law_36 : decode cL_law 36 = .ok (.bipush 31, 2) := by decide +kernel
theorem dL_law_38 : decode cL_law 38 = .ok (.iand, 1) := by decide +kernel
theorem dL_law_39 : decode cL_law 39 = .ok (.tableswitch 1517 0 24 #[113, 181, 249, 329, 397, 465, 545, 601, 645, 713, 781, 849, 917, 973, 1029, 1085, 1141, 1209, 1265, 1321, 1377, 1433, 1446, 1459, 1503], 113) := by decide +kernel
theorem dL_law_152 : decode cL_law 152 = .ok (.aload_n 1, 1) := by decide +kernel
theorem dL_law_153 : decode cL_law 153 = .ok (.aload_n 0, 1) := by decide +kernel
theorem dL_law_154 : decode cL_law 154 = .ok (.iload 4, 2) := by decide +kernel
theorem dL_law_156 : decode cL_law 156 = .ok (.iconst 1, 1) := by decide +kernel
theorem dL_law_157 : decode cL_law 157 = .ok (.iadd, 1) := by decide +kernel
theorem dL_law_158 : decode cL_law 158 = .ok (.iaload, 1) := by decide +kernel
theorem dL_law_159 : decode cL_law 159 = .ok (.aload_n 0, 1) := by decide +kernel
theorem dL_law_160 : decode cL_law 160 = .ok (.iload 4, 2) := by decide +kernel
theorem dL_law_162 : decode cL_law 162 = .ok (.iconst 2, 1) := by decide +kernel
theorem dL_law_163 : decode cL_law 163 = .ok (.iadd, 1) := by decide +kernel
theorem dL_law_164 : decode cL_law 164 = .ok (.iaload, 1) := by decide +kernel
theorem dL_law_165 : decode cL_law 165 = .ok (.aload_n 3, 1) := by decide +kernel
theorem dL_law_166 : decode cL_law 166 = .ok (.invokestatic 89, 3) := by decide +kernel
theorem dL_law_169 : decode cL_law 169 = .ok (.istore 5, 2) := by decide +kernel
theorem dL_law_171 : decode cL_law 171 = .ok (.aload_n 2, 1) := by decide +kernel
theorem dL_law_172 : decode cL_law 172 = .ok (.aload_n 0, 1) := by decide +kernel
theorem dL_law_173 : decode cL_law 173 = .ok (.iload 4, 2) := by decide +kernel
theorem dL_law_175 : decode cL_law 175 = .ok (.iconst 1, 1) := by decide +kernel
theorem dL_law_176 : decode cL_law 176 = .ok (.iadd, 1) := by decide +kernel
theorem dL_law_177 : decode cL_law 177 = .ok (.iaload, 1) := by decide +kernel
theorem dL_law_178 : decode cL_law 178 = .ok (.aload_n 0, 1) := by decide +kernel
theorem dL_law_179 : decode cL_law 179 = .ok (.iload 4, 2) := by decide +kernel
theorem dL_law_181 : decode cL_law 181 = .ok (.iconst 2, 1) := by decide +kernel
theorem dL_law_182 : decode cL_law 182 = .ok (.iadd, 1) := by decide +kernel
theorem dL_law_183 : decode cL_law 183 = .ok (.iaload, 1) := by decide +kernel
theorem dL_law_184 : decode cL_law 184 = .ok (.invokevirtual 94, 3) := by decide +kernel
theorem dL_law_187 : decode cL_law 187 = .ok (.istore 6, 2) := by decide +kernel
theorem dL_law_189 : decode cL_law 189 = .ok (.aload_n 2, 1) := by decide +kernel
theorem dL_law_190 : decode cL_law 190 = .ok (.invokevirtual 95, 3) := by decide +kernel
theorem dL_law_193 : decode cL_law 193 = .ok (.iload 5, 2) := by decide +kernel
theorem dL_law_195 : decode cL_law 195 = .ok (.if_icmp .eq 5, 3) := by decide +kernel
theorem dL_law_198 : decode cL_law 198 = .ok (.iconst 0, 1) := by decide +kernel
theorem dL_law_199 : decode cL_law 199 = .ok (.ireturn, 1) := by decide +kernel
theorem dL_law_200 : decode cL_law 200 = .ok (.iload 5, 2) := by decide +kernel
theorem dL_law_202 : decode cL_law 202 = .ok (.ifCond .ne 15, 3) := by decide +kernel
theorem dL_law_205 : decode cL_law 205 = .ok (.aload_n 3, 1) := by decide +kernel
theorem dL_law_206 : decode cL_law 206 = .ok (.iconst 0, 1) := by decide +kernel
theorem dL_law_207 : decode cL_law 207 = .ok (.laload, 1) := by decide +kernel
theorem dL_law_208 : decode cL_law 208 = .ok (.iload 6, 2) := by decide +kernel
theorem dL_law_210 : decode cL_law 210 = .ok (.i2l, 1) := by decide +kernel
theorem dL_law_211 : decode cL_law 211 = .ok (.lcmp, 1) := by decide +kernel
theorem dL_law_212 : decode cL_law 212 = .ok (.ifCond .eq 5, 3) := by decide +kernel
theorem dL_law_215 : decode cL_law 215 = .ok (.iconst 0, 1) := by decide +kernel
theorem dL_law_216 : decode cL_law 216 = .ok (.ireturn, 1) := by decide +kernel
theorem dL_law_217 : decode cL_law 217 = .ok (.goto 1339, 3) := by decide +kernel
theorem dL_law_220 : decode cL_law 220 = .ok (.aload_n 1, 1) := by decide +kernel
theorem dL_law_221 : decode cL_law 221 = .ok (.aload_n 0, 1) := by decide +kernel
theorem dL_law_222 : decode cL_law 222 = .ok (.iload 4, 2) := by decide +kernel
theorem dL_law_224 : decode cL_law 224 = .ok (.iconst 1, 1) := by decide +kernel
theorem dL_law_225 : decode cL_law 225 = .ok (.iadd, 1) := by decide +kernel
theorem dL_law_226 : decode cL_law 226 = .ok (.iaload, 1) := by decide +kernel
theorem dL_law_227 : decode cL_law 227 = .ok (.aload_n 0, 1) := by decide +kernel
theorem dL_law_228 : decode cL_law 228 = .ok (.iload 4, 2) := by decide +kernel
theorem dL_law_230 : decode cL_law 230 = .ok (.iconst 2, 1) := by decide +kernel
theorem dL_law_231 : decode cL_law 231 = .ok (.iadd, 1) := by decide +kernel
theorem dL_law_232 : decode cL_law 232 = .ok (.iaload, 1) := by decide +kernel
theorem dL_law_233 : decode cL_law 233 = .ok (.aload_n 3, 1) := by decide +kernel
theorem dL_law_234 : decode cL_law 234 = .ok (.invokestatic 98, 3) := by decide +kernel
theorem dL_law_237 : decode cL_law 237 = .ok (.istore 5, 2) := by decide +kernel
theorem dL_law_239 : decode cL_law 239 = .ok (.aload_n 2, 1) := by decide +kernel
theorem dL_law_240 : decode cL_law 240 = .ok (.aload_n 0, 1) := by decide +kernel
theorem dL_law_241 : decode cL_law 241 = .ok (.iload 4, 2) := by decide +kernel
theorem dL_law_243 : decode cL_law 243 = .ok (.iconst 1, 1) := by decide +kernel
theorem dL_law_244 : decode cL_law 244 = .ok (.iadd, 1) := by decide +kernel
theorem dL_law_245 : decode cL_law 245 = .ok (.iaload, 1) := by decide +kernel
theorem dL_law_246 : decode cL_law 246 = .ok (.aload_n 0, 1) := by decide +kernel
theorem dL_law_247 : decode cL_law 247 = .ok (.iload 4, 2) := by decide +kernel
theorem dL_law_249 : decode cL_law 249 = .ok (.iconst 2, 1) := by decide +kernel
theorem dL_law_250 : decode cL_law 250 = .ok (.iadd, 1) := by decide +kernel
theorem dL_law_251 : decode cL_law 251 = .ok (.iaload, 1) := by decide +kernel
theorem dL_law_252 : decode cL_law 252 = .ok (.invokevirtual 100, 3) := by decide +kernel
theorem dL_law_255 : decode cL_law 255 = .ok (.istore 6, 2) := by decide +kernel
theorem dL_law_257 : decode cL_law 257 = .ok (.aload_n 2, 1) := by decide +kernel
theorem dL_law_258 : decode cL_law 258 = .ok (.invokevirtual 95, 3) := by decide +kernel
theorem dL_law_261 : decode cL_law 261 = .ok (.iload 5, 2) := by decide +kernel
theorem dL_law_263 : decode cL_law 263 = .ok (.if_icmp .eq 5, 3) := by decide +kernel
theorem dL_law_266 : decode cL_law 266 = .ok (.iconst 0, 1) := by decide +kernel
theorem dL_law_267 : decode cL_law 267 = .ok (.ireturn, 1) := by decide +kernel
theorem dL_law_268 : decode cL_law 268 = .ok (.iload 5, 2) := by decide +kernel
theorem dL_law_270 : decode cL_law 270 = .ok (.ifCond .ne 15, 3) := by decide +kernel
theorem dL_law_273 : decode cL_law 273 = .ok (.aload_n 3, 1) := by decide +kernel
theorem dL_law_274 : decode cL_law 274 = .ok (.iconst 0, 1) := by decide +kernel
theorem dL_law_275 : decode cL_law 275 = .ok (.laload, 1) := by decide +kernel
theorem dL_law_276 : decode cL_law 276 = .ok (.iload 6, 2) := by decide +kernel
theorem dL_law_278 : decode cL_law 278 = .ok (.i2l, 1) := by decide +kernel
theorem dL_law_279 : decode cL_law 279 = .ok (.lcmp, 1) := by decide +kernel
theorem dL_law_280 : decode cL_law 280 = .ok (.ifCond .eq 5, 3) := by decide +kernel
theorem dL_law_283 : decode cL_law 283 = .ok (.iconst 0, 1) := by decide +kernel
theorem dL_law_284 : decode cL_law 284 = .ok (.ireturn, 1) := by decide +kernel
theorem dL_law_285 : decode cL_law 285 = .ok (.goto 1271, 3) := by decide +kernel
theorem dL_law_288 : decode cL_law 288 = .ok (.aload_n 1, 1) := by decide +kernel
theorem dL_law_289 : decode cL_law 289 = .ok (.aload_n 0, 1) := by decide +kernel
theorem dL_law_290 : decode cL_law 290 = .ok (.iload 4, 2) := by decide +kernel
theorem dL_law_292 : decode cL_law 292 = .ok (.iconst 1, 1) := by decide +kernel
theorem dL_law_293 : decode cL_law 293 = .ok (.iadd, 1) := by decide +kernel
theorem dL_law_294 : decode cL_law 294 = .ok (.iaload, 1) := by decide +kernel
theorem dL_law_295 : decode cL_law 295 = .ok (.aload_n 0, 1) := by decide +kernel
theorem dL_law_296 : decode cL_law 296 = .ok (.iload 4, 2) := by decide +kernel
theorem dL_law_298 : decode cL_law 298 = .ok (.iconst 2, 1) := by decide +kernel
theorem dL_law_299 : decode cL_law 299 = .ok (.iadd, 1) := by decide +kernel
theorem dL_law_300 : decode cL_law 300 = .ok (.iaload, 1) := by decide +kernel
theorem dL_law_301 : decode cL_law 301 = .ok (.aload_n 0, 1) := by decide +kernel
theorem dL_law_302 : decode cL_law 302 = .ok (.iload 4, 2) := by decide +kernel
theorem dL_law_304 : decode cL_law 304 = .ok (.iconst 3, 1) := by decide +kernel
theorem dL_law_305 : decode cL_law 305 = .ok (.iadd, 1) := by decide +kernel
theorem dL_law_306 : decode cL_law 306 = .ok (.iaload, 1) := by decide +kernel
theorem dL_law_307 : decode cL_law 307 = .ok (.aload_n 3, 1) := by decide +kernel
theorem dL_law_308 : decode cL_law 308 = .ok (.invokestatic 101, 3) := by decide +kernel
theorem dL_law_311 : decode cL_law 311 = .ok (.istore 5, 2) := by decide +kernel
theorem dL_law_313 : decode cL_law 313 = .ok (.aload_n 2, 1) := by decide +kernel
theorem dL_law_314 : decode cL_law 314 = .ok (.aload_n 0, 1) := by decide +kernel
theorem dL_law_315 : decode cL_law 315 = .ok (.iload 4, 2) := by decide +kernel
theorem dL_law_317 : decode cL_law 317 = .ok (.iconst 1, 1) := by decide +kernel
theorem dL_law_318 : decode cL_law 318 = .ok (.iadd, 1) := by decide +kernel
theorem dL_law_319 : decode cL_law 319 = .ok (.iaload, 1) := by decide +kernel
theorem dL_law_320 : decode cL_law 320 = .ok (.aload_n 0, 1) := by decide +kernel
theorem dL_law_321 : decode cL_law 321 = .ok (.iload 4, 2) := by decide +kernel
theorem dL_law_323 : decode cL_law 323 = .ok (.iconst 2, 1) := by decide +kernel
theorem dL_law_324 : decode cL_law 324 = .ok (.iadd, 1) := by decide +kernel
theorem dL_law_325 : decode cL_law 325 = .ok (.iaload, 1) := by decide +kernel
theorem dL_law_326 : decode cL_law 326 = .ok (.aload_n 0, 1) := by decide +kernel
theorem dL_law_327 : decode cL_law 327 = .ok (.iload 4, 2) := by decide +kernel
theorem dL_law_329 : decode cL_law 329 = .ok (.iconst 3, 1) := by decide +kernel
theorem dL_law_330 : decode cL_law 330 = .ok (.iadd, 1) := by decide +kernel
theorem dL_law_331 : decode cL_law 331 = .ok (.iaload, 1) := by decide +kernel
theorem dL_law_332 : decode cL_law 332 = .ok (.invokevirtual 104, 3) := by decide +kernel
theorem dL_law_335 : decode cL_law 335 = .ok (.istore 6, 2) := by decide +kernel
theorem dL_law_337 : decode cL_law 337 = .ok (.aload_n 2, 1) := by decide +kernel
theorem dL_law_338 : decode cL_law 338 = .ok (.invokevirtual 95, 3) := by decide +kernel
theorem dL_law_341 : decode cL_law 341 = .ok (.iload 5, 2) := by decide +kernel
theorem dL_law_343 : decode cL_law 343 = .ok (.if_icmp .eq 5, 3) := by decide +kernel
theorem dL_law_346 : decode cL_law 346 = .ok (.iconst 0, 1) := by decide +kernel
theorem dL_law_347 : decode cL_law 347 = .ok (.ireturn, 1) := by decide +kernel
theorem dL_law_348 : decode cL_law 348 = .ok (.iload 5, 2) := by decide +kernel
theorem dL_law_350 : decode cL_law 350 = .ok (.ifCond .ne 15, 3) := by decide +kernel
theorem dL_law_353 : decode cL_law 353 = .ok (.aload_n 3, 1) := by decide +kernel
theorem dL_law_354 : decode cL_law 354 = .ok (.iconst 0, 1) := by decide +kernel
theorem dL_law_355 : decode cL_law 355 = .ok (.laload, 1) := by decide +kernel
theorem dL_law_356 : decode cL_law 356 = .ok (.iload 6, 2) := by decide +kernel
theorem dL_law_358 : decode cL_law 358 = .ok (.i2l, 1) := by decide +kernel
theorem dL_law_359 : decode cL_law 359 = .ok (.lcmp, 1) := by decide +kernel
theorem dL_law_360 : decode cL_law 360 = .ok (.ifCond .eq 5, 3) := by decide +kernel
theorem dL_law_363 : decode cL_law 363 = .ok (.iconst 0, 1) := by decide +kernel
theorem dL_law_364 : decode cL_law 364 = .ok (.ireturn, 1) := by decide +kernel
theorem dL_law_365 : decode cL_law 365 = .ok (.goto 1191, 3) := by decide +kernel
theorem dL_law_368 : decode cL_law 368 = .ok (.aload_n 1, 1) := by decide +kernel
theorem dL_law_369 : decode cL_law 369 = .ok (.aload_n 0, 1) := by decide +kernel
theorem dL_law_370 : decode cL_law 370 = .ok (.iload 4, 2) := by decide +kernel
theorem dL_law_372 : decode cL_law 372 = .ok (.iconst 1, 1) := by decide +kernel
theorem dL_law_373 : decode cL_law 373 = .ok (.iadd, 1) := by decide +kernel
theorem dL_law_374 : decode cL_law 374 = .ok (.iaload, 1) := by decide +kernel
theorem dL_law_375 : decode cL_law 375 = .ok (.aload_n 0, 1) := by decide +kernel
theorem dL_law_376 : decode cL_law 376 = .ok (.iload 4, 2) := by decide +kernel
theorem dL_law_378 : decode cL_law 378 = .ok (.iconst 2, 1) := by decide +kernel
theorem dL_law_379 : decode cL_law 379 = .ok (.iadd, 1) := by decide +kernel
theorem dL_law_380 : decode cL_law 380 = .ok (.iaload, 1) := by decide +kernel
theorem dL_law_381 : decode cL_law 381 = .ok (.aload_n 3, 1) := by decide +kernel
theorem dL_law_382 : decode cL_law 382 = .ok (.invokestatic 105, 3) := by decide +kernel
theorem dL_law_385 : decode cL_law 385 = .ok (.istore 5, 2) := by decide +kernel
theorem dL_law_387 : decode cL_law 387 = .ok (.aload_n 2, 1) := by decide +kernel
theorem dL_law_388 : decode cL_law 388 = .ok (.aload_n 0, 1) := by decide +kernel
theorem dL_law_389 : decode cL_law 389 = .ok (.iload 4, 2) := by decide +kernel
theorem dL_law_391 : decode cL_law 391 = .ok (.iconst 1, 1) := by decide +kernel
theorem dL_law_392 : decode cL_law 392 = .ok (.iadd, 1) := by decide +kernel
theorem dL_law_393 : decode cL_law 393 = .ok (.iaload, 1) := by decide +kernel
theorem dL_law_394 : decode cL_law 394 = .ok (.aload_n 0, 1) := by decide +kernel
theorem dL_law_395 : decode cL_law 395 = .ok (.iload 4, 2) := by decide +kernel
theorem dL_law_397 : decode cL_law 397 = .ok (.iconst 2, 1) := by decide +kernel
theorem dL_law_398 : decode cL_law 398 = .ok (.iadd, 1) := by decide +kernel
theorem dL_law_399 : decode cL_law 399 = .ok (.iaload, 1) := by decide +kernel
theorem dL_law_400 : decode cL_law 400 = .ok (.invokevirtual 107, 3) := by decide +kernel
theorem dL_law_403 : decode cL_law 403 = .ok (.istore 6, 2) := by decide +kernel
theorem dL_law_405 : decode cL_law 405 = .ok (.aload_n 2, 1) := by decide +kernel
theorem dL_law_406 : decode cL_law 406 = .ok (.invokevirtual 95, 3) := by decide +kernel
theorem dL_law_409 : decode cL_law 409 = .ok (.iload 5, 2) := by decide +kernel
theorem dL_law_411 : decode cL_law 411 = .ok (.if_icmp .eq 5, 3) := by decide +kernel
theorem dL_law_414 : decode cL_law 414 = .ok (.iconst 0, 1) := by decide +kernel
theorem dL_law_415 : decode cL_law 415 = .ok (.ireturn, 1) := by decide +kernel
theorem dL_law_416 : decode cL_law 416 = .ok (.iload 5, 2) := by decide +kernel
theorem dL_law_418 : decode cL_law 418 = .ok (.ifCond .ne 15, 3) := by decide +kernel
theorem dL_law_421 : decode cL_law 421 = .ok (.aload_n 3, 1) := by decide +kernel
theorem dL_law_422 : decode cL_law 422 = .ok (.iconst 0, 1) := by decide +kernel
theorem dL_law_423 : decode cL_law 423 = .ok (.laload, 1) := by decide +kernel
theorem dL_law_424 : decode cL_law 424 = .ok (.iload 6, 2) := by decide +kernel
theorem dL_law_426 : decode cL_law 426 = .ok (.i2l, 1) := by decide +kernel
theorem dL_law_427 : decode cL_law 427 = .ok (.lcmp, 1) := by decide +kernel
theorem dL_law_428 : decode cL_law 428 = .ok (.ifCond .eq 5, 3) := by decide +kernel
theorem dL_law_431 : decode cL_law 431 = .ok (.iconst 0, 1) := by decide +kernel
theorem dL_law_432 : decode cL_law 432 = .ok (.ireturn, 1) := by decide +kernel
theorem dL_law_433 : decode cL_law 433 = .ok (.goto 1123, 3) := by decide +kernel
theorem dL_law_436 : decode cL_law 436 = .ok (.aload_n 1, 1) := by decide +kernel
theorem dL_law_437 : decode cL_law 437 = .ok (.aload_n 0, 1) := by decide +kernel
theorem dL_law_438 : decode cL_law 438 = .ok (.iload 4, 2) := by decide +kernel
theorem dL_law_440 : decode cL_law 440 = .ok (.iconst 1, 1) := by decide +kernel
theorem dL_law_441 : decode cL_law 441 = .ok (.iadd, 1) := by decide +kernel
theorem dL_law_442 : decode cL_law 442 = .ok (.iaload, 1) := by decide +kernel
theorem dL_law_443 : decode cL_law 443 = .ok (.aload_n 0, 1) := by decide +kernel
theorem dL_law_444 : decode cL_law 444 = .ok (.iload 4, 2) := by decide +kernel
theorem dL_law_446 : decode cL_law 446 = .ok (.iconst 2, 1) := by decide +kernel
theorem dL_law_447 : decode cL_law 447 = .ok (.iadd, 1) := by decide +kernel
theorem dL_law_448 : decode cL_law 448 = .ok (.iaload, 1) := by decide +kernel
theorem dL_law_449 : decode cL_law 449 = .ok (.aload_n 3, 1) := by decide +kernel
theorem dL_law_450 : decode cL_law 450 = .ok (.invokestatic 108, 3) := by decide +kernel
theorem dL_law_453 : decode cL_law 453 = .ok (.istore 5, 2) := by decide +kernel
theorem dL_law_455 : decode cL_law 455 = .ok (.aload_n 2, 1) := by decide +kernel
theorem dL_law_456 : decode cL_law 456 = .ok (.aload_n 0, 1) := by decide +kernel
theorem dL_law_457 : decode cL_law 457 = .ok (.iload 4, 2) := by decide +kernel
theorem dL_law_459 : decode cL_law 459 = .ok (.iconst 1, 1) := by decide +kernel
theorem dL_law_460 : decode cL_law 460 = .ok (.iadd, 1) := by decide +kernel
theorem dL_law_461 : decode cL_law 461 = .ok (.iaload, 1) := by decide +kernel
theorem dL_law_462 : decode cL_law 462 = .ok (.aload_n 0, 1) := by decide +kernel
theorem dL_law_463 : decode cL_law 463 = .ok (.iload 4, 2) := by decide +kernel
theorem dL_law_465 : decode cL_law 465 = .ok (.iconst 2, 1) := by decide +kernel
theorem dL_law_466 : decode cL_law 466 = .ok (.iadd, 1) := by decide +kernel
theorem dL_law_467 : decode cL_law 467 = .ok (.iaload, 1) := by decide +kernel
theorem dL_law_468 : decode cL_law 468 = .ok (.invokevirtual 110, 3) := by decide +kernel
theorem dL_law_471 : decode cL_law 471 = .ok (.istore 6, 2) := by decide +kernel
theorem dL_law_473 : decode cL_law 473 = .ok (.aload_n 2, 1) := by decide +kernel
theorem dL_law_474 : decode cL_law 474 = .ok (.invokevirtual 95, 3) := by decide +kernel
theorem dL_law_477 : decode cL_law 477 = .ok (.iload 5, 2) := by decide +kernel
theorem dL_law_479 : decode cL_law 479 = .ok (.if_icmp .eq 5, 3) := by decide +kernel
theorem dL_law_482 : decode cL_law 482 = .ok (.iconst 0, 1) := by decide +kernel
theorem dL_law_483 : decode cL_law 483 = .ok (.ireturn, 1) := by decide +kernel
theorem dL_law_484 : decode cL_law 484 = .ok (.iload 5, 2) := by decide +kernel
theorem dL_law_486 : decode cL_law 486 = .ok (.ifCond .ne 15, 3) := by decide +kernel
theorem dL_law_489 : decode cL_law 489 = .ok (.aload_n 3, 1) := by decide +kernel
theorem dL_law_490 : decode cL_law 490 = .ok (.iconst 0, 1) := by decide +kernel
theorem dL_law_491 : decode cL_law 491 = .ok (.laload, 1) := by decide +kernel
theorem dL_law_492 : decode cL_law 492 = .ok (.iload 6, 2) := by decide +kernel
theorem dL_law_494 : decode cL_law 494 = .ok (.i2l, 1) := by decide +kernel
theorem dL_law_495 : decode cL_law 495 = .ok (.lcmp, 1) := by decide +kernel
theorem dL_law_496 : decode cL_law 496 = .ok (.ifCond .eq 5, 3) := by decide +kernel
theorem dL_law_499 : decode cL_law 499 = .ok (.iconst 0, 1) := by decide +kernel
theorem dL_law_500 : decode cL_law 500 = .ok (.ireturn, 1) := by decide +kernel
theorem dL_law_501 : decode cL_law 501 = .ok (.goto 1055, 3) := by decide +kernel
theorem dL_law_504 : decode cL_law 504 = .ok (.aload_n 1, 1) := by decide +kernel
theorem dL_law_505 : decode cL_law 505 = .ok (.aload_n 0, 1) := by decide +kernel
theorem dL_law_506 : decode cL_law 506 = .ok (.iload 4, 2) := by decide +kernel
theorem dL_law_508 : decode cL_law 508 = .ok (.iconst 1, 1) := by decide +kernel
theorem dL_law_509 : decode cL_law 509 = .ok (.iadd, 1) := by decide +kernel
theorem dL_law_510 : decode cL_law 510 = .ok (.iaload, 1) := by decide +kernel
theorem dL_law_511 : decode cL_law 511 = .ok (.aload_n 0, 1) := by decide +kernel
theorem dL_law_512 : decode cL_law 512 = .ok (.iload 4, 2) := by decide +kernel
theorem dL_law_514 : decode cL_law 514 = .ok (.iconst 2, 1) := by decide +kernel
theorem dL_law_515 : decode cL_law 515 = .ok (.iadd, 1) := by decide +kernel
theorem dL_law_516 : decode cL_law 516 = .ok (.iaload, 1) := by decide +kernel
theorem dL_law_517 : decode cL_law 517 = .ok (.aload_n 0, 1) := by decide +kernel
theorem dL_law_518 : decode cL_law 518 = .ok (.iload 4, 2) := by decide +kernel
theorem dL_law_520 : decode cL_law 520 = .ok (.iconst 3, 1) := by decide +kernel
theorem dL_law_521 : decode cL_law 521 = .ok (.iadd, 1) := by decide +kernel
theorem dL_law_522 : decode cL_law 522 = .ok (.iaload, 1) := by decide +kernel
theorem dL_law_523 : decode cL_law 523 = .ok (.aload_n 3, 1) := by decide +kernel
theorem dL_law_524 : decode cL_law 524 = .ok (.invokestatic 111, 3) := by decide +kernel
theorem dL_law_527 : decode cL_law 527 = .ok (.istore 5, 2) := by decide +kernel
theorem dL_law_529 : decode cL_law 529 = .ok (.aload_n 2, 1) := by decide +kernel
theorem dL_law_530 : decode cL_law 530 = .ok (.aload_n 0, 1) := by decide +kernel
theorem dL_law_531 : decode cL_law 531 = .ok (.iload 4, 2) := by decide +kernel
theorem dL_law_533 : decode cL_law 533 = .ok (.iconst 1, 1) := by decide +kernel
theorem dL_law_534 : decode cL_law 534 = .ok (.iadd, 1) := by decide +kernel
theorem dL_law_535 : decode cL_law 535 = .ok (.iaload, 1) := by decide +kernel
theorem dL_law_536 : decode cL_law 536 = .ok (.aload_n 0, 1) := by decide +kernel
theorem dL_law_537 : decode cL_law 537 = .ok (.iload 4, 2) := by decide +kernel
theorem dL_law_539 : decode cL_law 539 = .ok (.iconst 2, 1) := by decide +kernel
theorem dL_law_540 : decode cL_law 540 = .ok (.iadd, 1) := by decide +kernel
theorem dL_law_541 : decode cL_law 541 = .ok (.iaload, 1) := by decide +kernel
theorem dL_law_542 : decode cL_law 542 = .ok (.aload_n 0, 1) := by decide +kernel
theorem dL_law_543 : decode cL_law 543 = .ok (.iload 4, 2) := by decide +kernel
theorem dL_law_545 : decode cL_law 545 = .ok (.iconst 3, 1) := by decide +kernel
theorem dL_law_546 : decode cL_law 546 = .ok (.iadd, 1) := by decide +kernel
theorem dL_law_547 : decode cL_law 547 = .ok (.iaload, 1) := by decide +kernel
theorem dL_law_548 : decode cL_law 548 = .ok (.invokevirtual 113, 3) := by decide +kernel
theorem dL_law_551 : decode cL_law 551 = .ok (.istore 6, 2) := by decide +kernel
theorem dL_law_553 : decode cL_law 553 = .ok (.aload_n 2, 1) := by decide +kernel
theorem dL_law_554 : decode cL_law 554 = .ok (.invokevirtual 95, 3) := by decide +kernel
theorem dL_law_557 : decode cL_law 557 = .ok (.iload 5, 2) := by decide +kernel
theorem dL_law_559 : decode cL_law 559 = .ok (.if_icmp .eq 5, 3) := by decide +kernel
theorem dL_law_562 : decode cL_law 562 = .ok (.iconst 0, 1) := by decide +kernel
theorem dL_law_563 : decode cL_law 563 = .ok (.ireturn, 1) := by decide +kernel
theorem dL_law_564 : decode cL_law 564 = .ok (.iload 5, 2) := by decide +kernel
theorem dL_law_566 : decode cL_law 566 = .ok (.ifCond .ne 15, 3) := by decide +kernel
theorem dL_law_569 : decode cL_law 569 = .ok (.aload_n 3, 1) := by decide +kernel
theorem dL_law_570 : decode cL_law 570 = .ok (.iconst 0, 1) := by decide +kernel
theorem dL_law_571 : decode cL_law 571 = .ok (.laload, 1) := by decide +kernel
theorem dL_law_572 : decode cL_law 572 = .ok (.iload 6, 2) := by decide +kernel
theorem dL_law_574 : decode cL_law 574 = .ok (.i2l, 1) := by decide +kernel
theorem dL_law_575 : decode cL_law 575 = .ok (.lcmp, 1) := by decide +kernel
theorem dL_law_576 : decode cL_law 576 = .ok (.ifCond .eq 5, 3) := by decide +kernel
theorem dL_law_579 : decode cL_law 579 = .ok (.iconst 0, 1) := by decide +kernel
theorem dL_law_580 : decode cL_law 580 = .ok (.ireturn, 1) := by decide +kernel
theorem dL_law_581 : decode cL_law 581 = .ok (.goto 975, 3) := by decide +kernel
theorem dL_law_584 : decode cL_law 584 = .ok (.aload_n 1, 1) := by decide +kernel
theorem dL_law_585 : decode cL_law 585 = .ok (.aload_n 0, 1) := by decide +kernel
theorem dL_law_586 : decode cL_law 586 = .ok (.iload 4, 2) := by decide +kernel
theorem dL_law_588 : decode cL_law 588 = .ok (.iconst 1, 1) := by decide +kernel
theorem dL_law_589 : decode cL_law 589 = .ok (.iadd, 1) := by decide +kernel
theorem dL_law_590 : decode cL_law 590 = .ok (.iaload, 1) := by decide +kernel
theorem dL_law_591 : decode cL_law 591 = .ok (.aload_n 3, 1) := by decide +kernel
theorem dL_law_592 : decode cL_law 592 = .ok (.invokestatic 114, 3) := by decide +kernel
theorem dL_law_595 : decode cL_law 595 = .ok (.istore 5, 2) := by decide +kernel
theorem dL_law_597 : decode cL_law 597 = .ok (.aload_n 2, 1) := by decide +kernel
theorem dL_law_598 : decode cL_law 598 = .ok (.aload_n 0, 1) := by decide +kernel
theorem dL_law_599 : decode cL_law 599 = .ok (.iload 4, 2) := by decide +kernel
theorem dL_law_601 : decode cL_law 601 = .ok (.iconst 1, 1) := by decide +kernel
theorem dL_law_602 : decode cL_law 602 = .ok (.iadd, 1) := by decide +kernel
theorem dL_law_603 : decode cL_law 603 = .ok (.iaload, 1) := by decide +kernel
theorem dL_law_604 : decode cL_law 604 = .ok (.invokevirtual 117, 3) := by decide +kernel
theorem dL_law_607 : decode cL_law 607 = .ok (.istore 6, 2) := by decide +kernel
theorem dL_law_609 : decode cL_law 609 = .ok (.aload_n 2, 1) := by decide +kernel
theorem dL_law_610 : decode cL_law 610 = .ok (.invokevirtual 95, 3) := by decide +kernel
theorem dL_law_613 : decode cL_law 613 = .ok (.iload 5, 2) := by decide +kernel
theorem dL_law_615 : decode cL_law 615 = .ok (.if_icmp .eq 5, 3) := by decide +kernel
theorem dL_law_618 : decode cL_law 618 = .ok (.iconst 0, 1) := by decide +kernel
theorem dL_law_619 : decode cL_law 619 = .ok (.ireturn, 1) := by decide +kernel
theorem dL_law_620 : decode cL_law 620 = .ok (.iload 5, 2) := by decide +kernel
theorem dL_law_622 : decode cL_law 622 = .ok (.ifCond .ne 15, 3) := by decide +kernel
theorem dL_law_625 : decode cL_law 625 = .ok (.aload_n 3, 1) := by decide +kernel
theorem dL_law_626 : decode cL_law 626 = .ok (.iconst 0, 1) := by decide +kernel
theorem dL_law_627 : decode cL_law 627 = .ok (.laload, 1) := by decide +kernel
theorem dL_law_628 : decode cL_law 628 = .ok (.iload 6, 2) := by decide +kernel
theorem dL_law_630 : decode cL_law 630 = .ok (.i2l, 1) := by decide +kernel
theorem dL_law_631 : decode cL_law 631 = .ok (.lcmp, 1) := by decide +kernel
theorem dL_law_632 : decode cL_law 632 = .ok (.ifCond .eq 5, 3) := by decide +kernel
theorem dL_law_635 : decode cL_law 635 = .ok (.iconst 0, 1) := by decide +kernel
theorem dL_law_636 : decode cL_law 636 = .ok (.ireturn, 1) := by decide +kernel
theorem dL_law_637 : decode cL_law 637 = .ok (.goto 919, 3) := by decide +kernel
theorem dL_law_640 : decode cL_law 640 = .ok (.aload_n 1, 1) := by decide +kernel
theorem dL_law_641 : decode cL_law 641 = .ok (.aload_n 3, 1) := by decide +kernel
theorem dL_law_642 : decode cL_law 642 = .ok (.invokestatic 118, 3) := by decide +kernel
theorem dL_law_645 : decode cL_law 645 = .ok (.istore 5, 2) := by decide +kernel
theorem dL_law_647 : decode cL_law 647 = .ok (.aload_n 2, 1) := by decide +kernel
theorem dL_law_648 : decode cL_law 648 = .ok (.invokevirtual 121, 3) := by decide +kernel
theorem dL_law_651 : decode cL_law 651 = .ok (.istore 6, 2) := by decide +kernel
theorem dL_law_653 : decode cL_law 653 = .ok (.aload_n 2, 1) := by decide +kernel
theorem dL_law_654 : decode cL_law 654 = .ok (.invokevirtual 95, 3) := by decide +kernel
theorem dL_law_657 : decode cL_law 657 = .ok (.iload 5, 2) := by decide +kernel
theorem dL_law_659 : decode cL_law 659 = .ok (.if_icmp .eq 5, 3) := by decide +kernel
theorem dL_law_662 : decode cL_law 662 = .ok (.iconst 0, 1) := by decide +kernel
theorem dL_law_663 : decode cL_law 663 = .ok (.ireturn, 1) := by decide +kernel
theorem dL_law_664 : decode cL_law 664 = .ok (.iload 5, 2) := by decide +kernel
theorem dL_law_666 : decode cL_law 666 = .ok (.ifCond .ne 15, 3) := by decide +kernel
theorem dL_law_669 : decode cL_law 669 = .ok (.aload_n 3, 1) := by decide +kernel
theorem dL_law_670 : decode cL_law 670 = .ok (.iconst 0, 1) := by decide +kernel
theorem dL_law_671 : decode cL_law 671 = .ok (.laload, 1) := by decide +kernel
theorem dL_law_672 : decode cL_law 672 = .ok (.iload 6, 2) := by decide +kernel
theorem dL_law_674 : decode cL_law 674 = .ok (.i2l, 1) := by decide +kernel
theorem dL_law_675 : decode cL_law 675 = .ok (.lcmp, 1) := by decide +kernel
theorem dL_law_676 : decode cL_law 676 = .ok (.ifCond .eq 5, 3) := by decide +kernel
theorem dL_law_679 : decode cL_law 679 = .ok (.iconst 0, 1) := by decide +kernel
theorem dL_law_680 : decode cL_law 680 = .ok (.ireturn, 1) := by decide +kernel
theorem dL_law_681 : decode cL_law 681 = .ok (.goto 875, 3) := by decide +kernel
theorem dL_law_684 : decode cL_law 684 = .ok (.aload_n 1, 1) := by decide +kernel
theorem dL_law_685 : decode cL_law 685 = .ok (.aload_n 0, 1) := by decide +kernel
theorem dL_law_686 : decode cL_law 686 = .ok (.iload 4, 2) := by decide +kernel
theorem dL_law_688 : decode cL_law 688 = .ok (.iconst 1, 1) := by decide +kernel
theorem dL_law_689 : decode cL_law 689 = .ok (.iadd, 1) := by decide +kernel
theorem dL_law_690 : decode cL_law 690 = .ok (.iaload, 1) := by decide +kernel
theorem dL_law_691 : decode cL_law 691 = .ok (.aload_n 0, 1) := by decide +kernel
theorem dL_law_692 : decode cL_law 692 = .ok (.iload 4, 2) := by decide +kernel
theorem dL_law_694 : decode cL_law 694 = .ok (.iconst 2, 1) := by decide +kernel
theorem dL_law_695 : decode cL_law 695 = .ok (.iadd, 1) := by decide +kernel
theorem dL_law_696 : decode cL_law 696 = .ok (.iaload, 1) := by decide +kernel
theorem dL_law_697 : decode cL_law 697 = .ok (.aload_n 3, 1) := by decide +kernel
theorem dL_law_698 : decode cL_law 698 = .ok (.invokestatic 122, 3) := by decide +kernel
theorem dL_law_701 : decode cL_law 701 = .ok (.istore 5, 2) := by decide +kernel
theorem dL_law_703 : decode cL_law 703 = .ok (.aload_n 2, 1) := by decide +kernel
theorem dL_law_704 : decode cL_law 704 = .ok (.aload_n 0, 1) := by decide +kernel
theorem dL_law_705 : decode cL_law 705 = .ok (.iload 4, 2) := by decide +kernel
theorem dL_law_707 : decode cL_law 707 = .ok (.iconst 1, 1) := by decide +kernel
theorem dL_law_708 : decode cL_law 708 = .ok (.iadd, 1) := by decide +kernel
theorem dL_law_709 : decode cL_law 709 = .ok (.iaload, 1) := by decide +kernel
theorem dL_law_710 : decode cL_law 710 = .ok (.aload_n 0, 1) := by decide +kernel
theorem dL_law_711 : decode cL_law 711 = .ok (.iload 4, 2) := by decide +kernel
theorem dL_law_713 : decode cL_law 713 = .ok (.iconst 2, 1) := by decide +kernel
theorem dL_law_714 : decode cL_law 714 = .ok (.iadd, 1) := by decide +kernel
theorem dL_law_715 : decode cL_law 715 = .ok (.iaload, 1) := by decide +kernel
theorem dL_law_716 : decode cL_law 716 = .ok (.invokevirtual 124, 3) := by decide +kernel
theorem dL_law_719 : decode cL_law 719 = .ok (.istore 6, 2) := by decide +kernel
theorem dL_law_721 : decode cL_law 721 = .ok (.aload_n 2, 1) := by decide +kernel
theorem dL_law_722 : decode cL_law 722 = .ok (.invokevirtual 95, 3) := by decide +kernel
theorem dL_law_725 : decode cL_law 725 = .ok (.iload 5, 2) := by decide +kernel
theorem dL_law_727 : decode cL_law 727 = .ok (.if_icmp .eq 5, 3) := by decide +kernel
theorem dL_law_730 : decode cL_law 730 = .ok (.iconst 0, 1) := by decide +kernel
theorem dL_law_731 : decode cL_law 731 = .ok (.ireturn, 1) := by decide +kernel
theorem dL_law_732 : decode cL_law 732 = .ok (.iload 5, 2) := by decide +kernel
theorem dL_law_734 : decode cL_law 734 = .ok (.ifCond .ne 15, 3) := by decide +kernel
theorem dL_law_737 : decode cL_law 737 = .ok (.aload_n 3, 1) := by decide +kernel
theorem dL_law_738 : decode cL_law 738 = .ok (.iconst 0, 1) := by decide +kernel
theorem dL_law_739 : decode cL_law 739 = .ok (.laload, 1) := by decide +kernel
theorem dL_law_740 : decode cL_law 740 = .ok (.iload 6, 2) := by decide +kernel
theorem dL_law_742 : decode cL_law 742 = .ok (.i2l, 1) := by decide +kernel
theorem dL_law_743 : decode cL_law 743 = .ok (.lcmp, 1) := by decide +kernel
theorem dL_law_744 : decode cL_law 744 = .ok (.ifCond .eq 5, 3) := by decide +kernel
theorem dL_law_747 : decode cL_law 747 = .ok (.iconst 0, 1) := by decide +kernel
theorem dL_law_748 : decode cL_law 748 = .ok (.ireturn, 1) := by decide +kernel
theorem dL_law_749 : decode cL_law 749 = .ok (.goto 807, 3) := by decide +kernel
theorem dL_law_752 : decode cL_law 752 = .ok (.aload_n 1, 1) := by decide +kernel
theorem dL_law_753 : decode cL_law 753 = .ok (.aload_n 0, 1) := by decide +kernel
theorem dL_law_754 : decode cL_law 754 = .ok (.iload 4, 2) := by decide +kernel
theorem dL_law_756 : decode cL_law 756 = .ok (.iconst 1, 1) := by decide +kernel
theorem dL_law_757 : decode cL_law 757 = .ok (.iadd, 1) := by decide +kernel
theorem dL_law_758 : decode cL_law 758 = .ok (.iaload, 1) := by decide +kernel
theorem dL_law_759 : decode cL_law 759 = .ok (.aload_n 0, 1) := by decide +kernel
theorem dL_law_760 : decode cL_law 760 = .ok (.iload 4, 2) := by decide +kernel
theorem dL_law_762 : decode cL_law 762 = .ok (.iconst 2, 1) := by decide +kernel
theorem dL_law_763 : decode cL_law 763 = .ok (.iadd, 1) := by decide +kernel
theorem dL_law_764 : decode cL_law 764 = .ok (.iaload, 1) := by decide +kernel
theorem dL_law_765 : decode cL_law 765 = .ok (.aload_n 3, 1) := by decide +kernel
theorem dL_law_766 : decode cL_law 766 = .ok (.invokestatic 125, 3) := by decide +kernel
theorem dL_law_769 : decode cL_law 769 = .ok (.istore 5, 2) := by decide +kernel
theorem dL_law_771 : decode cL_law 771 = .ok (.aload_n 2, 1) := by decide +kernel
theorem dL_law_772 : decode cL_law 772 = .ok (.aload_n 0, 1) := by decide +kernel
theorem dL_law_773 : decode cL_law 773 = .ok (.iload 4, 2) := by decide +kernel
theorem dL_law_775 : decode cL_law 775 = .ok (.iconst 1, 1) := by decide +kernel
theorem dL_law_776 : decode cL_law 776 = .ok (.iadd, 1) := by decide +kernel
theorem dL_law_777 : decode cL_law 777 = .ok (.iaload, 1) := by decide +kernel
theorem dL_law_778 : decode cL_law 778 = .ok (.aload_n 0, 1) := by decide +kernel
theorem dL_law_779 : decode cL_law 779 = .ok (.iload 4, 2) := by decide +kernel
theorem dL_law_781 : decode cL_law 781 = .ok (.iconst 2, 1) := by decide +kernel
theorem dL_law_782 : decode cL_law 782 = .ok (.iadd, 1) := by decide +kernel
theorem dL_law_783 : decode cL_law 783 = .ok (.iaload, 1) := by decide +kernel
theorem dL_law_784 : decode cL_law 784 = .ok (.invokevirtual 127, 3) := by decide +kernel
theorem dL_law_787 : decode cL_law 787 = .ok (.istore 6, 2) := by decide +kernel
theorem dL_law_789 : decode cL_law 789 = .ok (.aload_n 2, 1) := by decide +kernel
theorem dL_law_790 : decode cL_law 790 = .ok (.invokevirtual 95, 3) := by decide +kernel
theorem dL_law_793 : decode cL_law 793 = .ok (.iload 5, 2) := by decide +kernel
theorem dL_law_795 : decode cL_law 795 = .ok (.if_icmp .eq 5, 3) := by decide +kernel
theorem dL_law_798 : decode cL_law 798 = .ok (.iconst 0, 1) := by decide +kernel
theorem dL_law_799 : decode cL_law 799 = .ok (.ireturn, 1) := by decide +kernel
theorem dL_law_800 : decode cL_law 800 = .ok (.iload 5, 2) := by decide +kernel
theorem dL_law_802 : decode cL_law 802 = .ok (.ifCond .ne 15, 3) := by decide +kernel
theorem dL_law_805 : decode cL_law 805 = .ok (.aload_n 3, 1) := by decide +kernel
theorem dL_law_806 : decode cL_law 806 = .ok (.iconst 0, 1) := by decide +kernel
theorem dL_law_807 : decode cL_law 807 = .ok (.laload, 1) := by decide +kernel
theorem dL_law_808 : decode cL_law 808 = .ok (.iload 6, 2) := by decide +kernel
theorem dL_law_810 : decode cL_law 810 = .ok (.i2l, 1) := by decide +kernel
theorem dL_law_811 : decode cL_law 811 = .ok (.lcmp, 1) := by decide +kernel
theorem dL_law_812 : decode cL_law 812 = .ok (.ifCond .eq 5, 3) := by decide +kernel
theorem dL_law_815 : decode cL_law 815 = .ok (.iconst 0, 1) := by decide +kernel
theorem dL_law_816 : decode cL_law 816 = .ok (.ireturn, 1) := by decide +kernel
theorem dL_law_817 : decode cL_law 817 = .ok (.goto 739, 3) := by decide +kernel
theorem dL_law_820 : decode cL_law 820 = .ok (.aload_n 1, 1) := by decide +kernel
theorem dL_law_821 : decode cL_law 821 = .ok (.aload_n 0, 1) := by decide +kernel
theorem dL_law_822 : decode cL_law 822 = .ok (.iload 4, 2) := by decide +kernel
theorem dL_law_824 : decode cL_law 824 = .ok (.iconst 1, 1) := by decide +kernel
theorem dL_law_825 : decode cL_law 825 = .ok (.iadd, 1) := by decide +kernel
theorem dL_law_826 : decode cL_law 826 = .ok (.iaload, 1) := by decide +kernel
theorem dL_law_827 : decode cL_law 827 = .ok (.aload_n 0, 1) := by decide +kernel
theorem dL_law_828 : decode cL_law 828 = .ok (.iload 4, 2) := by decide +kernel
theorem dL_law_830 : decode cL_law 830 = .ok (.iconst 2, 1) := by decide +kernel
theorem dL_law_831 : decode cL_law 831 = .ok (.iadd, 1) := by decide +kernel
theorem dL_law_832 : decode cL_law 832 = .ok (.iaload, 1) := by decide +kernel
theorem dL_law_833 : decode cL_law 833 = .ok (.aload_n 3, 1) := by decide +kernel
theorem dL_law_834 : decode cL_law 834 = .ok (.invokestatic 128, 3) := by decide +kernel
theorem dL_law_837 : decode cL_law 837 = .ok (.istore 5, 2) := by decide +kernel
theorem dL_law_839 : decode cL_law 839 = .ok (.aload_n 2, 1) := by decide +kernel
theorem dL_law_840 : decode cL_law 840 = .ok (.aload_n 0, 1) := by decide +kernel
theorem dL_law_841 : decode cL_law 841 = .ok (.iload 4, 2) := by decide +kernel
theorem dL_law_843 : decode cL_law 843 = .ok (.iconst 1, 1) := by decide +kernel
theorem dL_law_844 : decode cL_law 844 = .ok (.iadd, 1) := by decide +kernel
theorem dL_law_845 : decode cL_law 845 = .ok (.iaload, 1) := by decide +kernel
theorem dL_law_846 : decode cL_law 846 = .ok (.aload_n 0, 1) := by decide +kernel
theorem dL_law_847 : decode cL_law 847 = .ok (.iload 4, 2) := by decide +kernel
theorem dL_law_849 : decode cL_law 849 = .ok (.iconst 2, 1) := by decide +kernel
theorem dL_law_850 : decode cL_law 850 = .ok (.iadd, 1) := by decide +kernel
theorem dL_law_851 : decode cL_law 851 = .ok (.iaload, 1) := by decide +kernel
theorem dL_law_852 : decode cL_law 852 = .ok (.invokevirtual 130, 3) := by decide +kernel
theorem dL_law_855 : decode cL_law 855 = .ok (.istore 6, 2) := by decide +kernel
theorem dL_law_857 : decode cL_law 857 = .ok (.aload_n 2, 1) := by decide +kernel
theorem dL_law_858 : decode cL_law 858 = .ok (.invokevirtual 95, 3) := by decide +kernel
theorem dL_law_861 : decode cL_law 861 = .ok (.iload 5, 2) := by decide +kernel
theorem dL_law_863 : decode cL_law 863 = .ok (.if_icmp .eq 5, 3) := by decide +kernel
theorem dL_law_866 : decode cL_law 866 = .ok (.iconst 0, 1) := by decide +kernel
theorem dL_law_867 : decode cL_law 867 = .ok (.ireturn, 1) := by decide +kernel
theorem dL_law_868 : decode cL_law 868 = .ok (.iload 5, 2) := by decide +kernel
theorem dL_law_870 : decode cL_law 870 = .ok (.ifCond .ne 15, 3) := by decide +kernel
theorem dL_law_873 : decode cL_law 873 = .ok (.aload_n 3, 1) := by decide +kernel
theorem dL_law_874 : decode cL_law 874 = .ok (.iconst 0, 1) := by decide +kernel
theorem dL_law_875 : decode cL_law 875 = .ok (.laload, 1) := by decide +kernel
theorem dL_law_876 : decode cL_law 876 = .ok (.iload 6, 2) := by decide +kernel
theorem dL_law_878 : decode cL_law 878 = .ok (.i2l, 1) := by decide +kernel
theorem dL_law_879 : decode cL_law 879 = .ok (.lcmp, 1) := by decide +kernel
theorem dL_law_880 : decode cL_law 880 = .ok (.ifCond .eq 5, 3) := by decide +kernel
theorem dL_law_883 : decode cL_law 883 = .ok (.iconst 0, 1) := by decide +kernel
theorem dL_law_884 : decode cL_law 884 = .ok (.ireturn, 1) := by decide +kernel
theorem dL_law_885 : decode cL_law 885 = .ok (.goto 671, 3) := by decide +kernel
theorem dL_law_888 : decode cL_law 888 = .ok (.aload_n 1, 1) := by decide +kernel
theorem dL_law_889 : decode cL_law 889 = .ok (.aload_n 0, 1) := by decide +kernel
theorem dL_law_890 : decode cL_law 890 = .ok (.iload 4, 2) := by decide +kernel
theorem dL_law_892 : decode cL_law 892 = .ok (.iconst 1, 1) := by decide +kernel
theorem dL_law_893 : decode cL_law 893 = .ok (.iadd, 1) := by decide +kernel
theorem dL_law_894 : decode cL_law 894 = .ok (.iaload, 1) := by decide +kernel
theorem dL_law_895 : decode cL_law 895 = .ok (.aload_n 0, 1) := by decide +kernel
theorem dL_law_896 : decode cL_law 896 = .ok (.iload 4, 2) := by decide +kernel
theorem dL_law_898 : decode cL_law 898 = .ok (.iconst 2, 1) := by decide +kernel
theorem dL_law_899 : decode cL_law 899 = .ok (.iadd, 1) := by decide +kernel
theorem dL_law_900 : decode cL_law 900 = .ok (.iaload, 1) := by decide +kernel
theorem dL_law_901 : decode cL_law 901 = .ok (.aload_n 3, 1) := by decide +kernel
theorem dL_law_902 : decode cL_law 902 = .ok (.invokestatic 131, 3) := by decide +kernel
theorem dL_law_905 : decode cL_law 905 = .ok (.istore 5, 2) := by decide +kernel
theorem dL_law_907 : decode cL_law 907 = .ok (.aload_n 2, 1) := by decide +kernel
theorem dL_law_908 : decode cL_law 908 = .ok (.aload_n 0, 1) := by decide +kernel
theorem dL_law_909 : decode cL_law 909 = .ok (.iload 4, 2) := by decide +kernel
theorem dL_law_911 : decode cL_law 911 = .ok (.iconst 1, 1) := by decide +kernel
theorem dL_law_912 : decode cL_law 912 = .ok (.iadd, 1) := by decide +kernel
theorem dL_law_913 : decode cL_law 913 = .ok (.iaload, 1) := by decide +kernel
theorem dL_law_914 : decode cL_law 914 = .ok (.aload_n 0, 1) := by decide +kernel
theorem dL_law_915 : decode cL_law 915 = .ok (.iload 4, 2) := by decide +kernel
theorem dL_law_917 : decode cL_law 917 = .ok (.iconst 2, 1) := by decide +kernel
theorem dL_law_918 : decode cL_law 918 = .ok (.iadd, 1) := by decide +kernel
theorem dL_law_919 : decode cL_law 919 = .ok (.iaload, 1) := by decide +kernel
theorem dL_law_920 : decode cL_law 920 = .ok (.invokevirtual 133, 3) := by decide +kernel
theorem dL_law_923 : decode cL_law 923 = .ok (.istore 6, 2) := by decide +kernel
theorem dL_law_925 : decode cL_law 925 = .ok (.aload_n 2, 1) := by decide +kernel
theorem dL_law_926 : decode cL_law 926 = .ok (.invokevirtual 95, 3) := by decide +kernel
theorem dL_law_929 : decode cL_law 929 = .ok (.iload 5, 2) := by decide +kernel
theorem dL_law_931 : decode cL_law 931 = .ok (.if_icmp .eq 5, 3) := by decide +kernel
theorem dL_law_934 : decode cL_law 934 = .ok (.iconst 0, 1) := by decide +kernel
theorem dL_law_935 : decode cL_law 935 = .ok (.ireturn, 1) := by decide +kernel
theorem dL_law_936 : decode cL_law 936 = .ok (.iload 5, 2) := by decide +kernel
theorem dL_law_938 : decode cL_law 938 = .ok (.ifCond .ne 15, 3) := by decide +kernel
theorem dL_law_941 : decode cL_law 941 = .ok (.aload_n 3, 1) := by decide +kernel
theorem dL_law_942 : decode cL_law 942 = .ok (.iconst 0, 1) := by decide +kernel
theorem dL_law_943 : decode cL_law 943 = .ok (.laload, 1) := by decide +kernel
theorem dL_law_944 : decode cL_law 944 = .ok (.iload 6, 2) := by decide +kernel
theorem dL_law_946 : decode cL_law 946 = .ok (.i2l, 1) := by decide +kernel
theorem dL_law_947 : decode cL_law 947 = .ok (.lcmp, 1) := by decide +kernel
theorem dL_law_948 : decode cL_law 948 = .ok (.ifCond .eq 5, 3) := by decide +kernel
theorem dL_law_951 : decode cL_law 951 = .ok (.iconst 0, 1) := by decide +kernel
theorem dL_law_952 : decode cL_law 952 = .ok (.ireturn, 1) := by decide +kernel
theorem dL_law_953 : decode cL_law 953 = .ok (.goto 603, 3) := by decide +kernel
theorem dL_law_956 : decode cL_law 956 = .ok (.aload_n 1, 1) := by decide +kernel
theorem dL_law_957 : decode cL_law 957 = .ok (.aload_n 0, 1) := by decide +kernel
theorem dL_law_958 : decode cL_law 958 = .ok (.iload 4, 2) := by decide +kernel
theorem dL_law_960 : decode cL_law 960 = .ok (.iconst 1, 1) := by decide +kernel
theorem dL_law_961 : decode cL_law 961 = .ok (.iadd, 1) := by decide +kernel
theorem dL_law_962 : decode cL_law 962 = .ok (.iaload, 1) := by decide +kernel
theorem dL_law_963 : decode cL_law 963 = .ok (.aload_n 3, 1) := by decide +kernel
theorem dL_law_964 : decode cL_law 964 = .ok (.invokestatic 134, 3) := by decide +kernel
theorem dL_law_967 : decode cL_law 967 = .ok (.istore 5, 2) := by decide +kernel
theorem dL_law_969 : decode cL_law 969 = .ok (.aload_n 2, 1) := by decide +kernel
theorem dL_law_970 : decode cL_law 970 = .ok (.aload_n 0, 1) := by decide +kernel
theorem dL_law_971 : decode cL_law 971 = .ok (.iload 4, 2) := by decide +kernel
theorem dL_law_973 : decode cL_law 973 = .ok (.iconst 1, 1) := by decide +kernel
theorem dL_law_974 : decode cL_law 974 = .ok (.iadd, 1) := by decide +kernel
theorem dL_law_975 : decode cL_law 975 = .ok (.iaload, 1) := by decide +kernel
theorem dL_law_976 : decode cL_law 976 = .ok (.invokevirtual 136, 3) := by decide +kernel
theorem dL_law_979 : decode cL_law 979 = .ok (.istore 6, 2) := by decide +kernel
theorem dL_law_981 : decode cL_law 981 = .ok (.aload_n 2, 1) := by decide +kernel
theorem dL_law_982 : decode cL_law 982 = .ok (.invokevirtual 95, 3) := by decide +kernel
theorem dL_law_985 : decode cL_law 985 = .ok (.iload 5, 2) := by decide +kernel
theorem dL_law_987 : decode cL_law 987 = .ok (.if_icmp .eq 5, 3) := by decide +kernel
theorem dL_law_990 : decode cL_law 990 = .ok (.iconst 0, 1) := by decide +kernel
theorem dL_law_991 : decode cL_law 991 = .ok (.ireturn, 1) := by decide +kernel
theorem dL_law_992 : decode cL_law 992 = .ok (.iload 5, 2) := by decide +kernel
theorem dL_law_994 : decode cL_law 994 = .ok (.ifCond .ne 15, 3) := by decide +kernel
theorem dL_law_997 : decode cL_law 997 = .ok (.aload_n 3, 1) := by decide +kernel
theorem dL_law_998 : decode cL_law 998 = .ok (.iconst 0, 1) := by decide +kernel
theorem dL_law_999 : decode cL_law 999 = .ok (.laload, 1) := by decide +kernel
theorem dL_law_1000 : decode cL_law 1000 = .ok (.iload 6, 2) := by decide +kernel
theorem dL_law_1002 : decode cL_law 1002 = .ok (.i2l, 1) := by decide +kernel
theorem dL_law_1003 : decode cL_law 1003 = .ok (.lcmp, 1) := by decide +kernel
theorem dL_law_1004 : decode cL_law 1004 = .ok (.ifCond .eq 5, 3) := by decide +kernel
theorem dL_law_1007 : decode cL_law 1007 = .ok (.iconst 0, 1) := by decide +kernel
theorem dL_law_1008 : decode cL_law 1008 = .ok (.ireturn, 1) := by decide +kernel
theorem dL_law_1009 : decode cL_law 1009 = .ok (.goto 547, 3) := by decide +kernel
theorem dL_law_1012 : decode cL_law 1012 = .ok (.aload_n 1, 1) := by decide +kernel
theorem dL_law_1013 : decode cL_law 1013 = .ok (.aload_n 0, 1) := by decide +kernel
theorem dL_law_1014 : decode cL_law 1014 = .ok (.iload 4, 2) := by decide +kernel
theorem dL_law_1016 : decode cL_law 1016 = .ok (.iconst 1, 1) := by decide +kernel
theorem dL_law_1017 : decode cL_law 1017 = .ok (.iadd, 1) := by decide +kernel
theorem dL_law_1018 : decode cL_law 1018 = .ok (.iaload, 1) := by decide +kernel
theorem dL_law_1019 : decode cL_law 1019 = .ok (.aload_n 3, 1) := by decide +kernel
theorem dL_law_1020 : decode cL_law 1020 = .ok (.invokestatic 137, 3) := by decide +kernel
theorem dL_law_1023 : decode cL_law 1023 = .ok (.istore 5, 2) := by decide +kernel
theorem dL_law_1025 : decode cL_law 1025 = .ok (.aload_n 2, 1) := by decide +kernel
theorem dL_law_1026 : decode cL_law 1026 = .ok (.aload_n 0, 1) := by decide +kernel
theorem dL_law_1027 : decode cL_law 1027 = .ok (.iload 4, 2) := by decide +kernel
theorem dL_law_1029 : decode cL_law 1029 = .ok (.iconst 1, 1) := by decide +kernel
theorem dL_law_1030 : decode cL_law 1030 = .ok (.iadd, 1) := by decide +kernel
theorem dL_law_1031 : decode cL_law 1031 = .ok (.iaload, 1) := by decide +kernel
theorem dL_law_1032 : decode cL_law 1032 = .ok (.invokevirtual 139, 3) := by decide +kernel
theorem dL_law_1035 : decode cL_law 1035 = .ok (.istore 6, 2) := by decide +kernel
theorem dL_law_1037 : decode cL_law 1037 = .ok (.aload_n 2, 1) := by decide +kernel
theorem dL_law_1038 : decode cL_law 1038 = .ok (.invokevirtual 95, 3) := by decide +kernel
theorem dL_law_1041 : decode cL_law 1041 = .ok (.iload 5, 2) := by decide +kernel
theorem dL_law_1043 : decode cL_law 1043 = .ok (.if_icmp .eq 5, 3) := by decide +kernel
theorem dL_law_1046 : decode cL_law 1046 = .ok (.iconst 0, 1) := by decide +kernel
theorem dL_law_1047 : decode cL_law 1047 = .ok (.ireturn, 1) := by decide +kernel
theorem dL_law_1048 : decode cL_law 1048 = .ok (.iload 5, 2) := by decide +kernel
theorem dL_law_1050 : decode cL_law 1050 = .ok (.ifCond .ne 15, 3) := by decide +kernel
theorem dL_law_1053 : decode cL_law 1053 = .ok (.aload_n 3, 1) := by decide +kernel
theorem dL_law_1054 : decode cL_law 1054 = .ok (.iconst 0, 1) := by decide +kernel
theorem dL_law_1055 : decode cL_law 1055 = .ok (.laload, 1) := by decide +kernel
theorem dL_law_1056 : decode cL_law 1056 = .ok (.iload 6, 2) := by decide +kernel
theorem dL_law_1058 : decode cL_law 1058 = .ok (.i2l, 1) := by decide +kernel
theorem dL_law_1059 : decode cL_law 1059 = .ok (.lcmp, 1) := by decide +kernel
theorem dL_law_1060 : decode cL_law 1060 = .ok (.ifCond .eq 5, 3) := by decide +kernel
theorem dL_law_1063 : decode cL_law 1063 = .ok (.iconst 0, 1) := by decide +kernel
theorem dL_law_1064 : decode cL_law 1064 = .ok (.ireturn, 1) := by decide +kernel
theorem dL_law_1065 : decode cL_law 1065 = .ok (.goto 491, 3) := by decide +kernel
theorem dL_law_1068 : decode cL_law 1068 = .ok (.aload_n 1, 1) := by decide +kernel
theorem dL_law_1069 : decode cL_law 1069 = .ok (.aload_n 0, 1) := by decide +kernel
theorem dL_law_1070 : decode cL_law 1070 = .ok (.iload 4, 2) := by decide +kernel
theorem dL_law_1072 : decode cL_law 1072 = .ok (.iconst 1, 1) := by decide +kernel
theorem dL_law_1073 : decode cL_law 1073 = .ok (.iadd, 1) := by decide +kernel
theorem dL_law_1074 : decode cL_law 1074 = .ok (.iaload, 1) := by decide +kernel
theorem dL_law_1075 : decode cL_law 1075 = .ok (.aload_n 3, 1) := by decide +kernel
theorem dL_law_1076 : decode cL_law 1076 = .ok (.invokestatic 140, 3) := by decide +kernel
theorem dL_law_1079 : decode cL_law 1079 = .ok (.istore 5, 2) := by decide +kernel
theorem dL_law_1081 : decode cL_law 1081 = .ok (.aload_n 2, 1) := by decide +kernel
theorem dL_law_1082 : decode cL_law 1082 = .ok (.aload_n 0, 1) := by decide +kernel
theorem dL_law_1083 : decode cL_law 1083 = .ok (.iload 4, 2) := by decide +kernel
theorem dL_law_1085 : decode cL_law 1085 = .ok (.iconst 1, 1) := by decide +kernel
theorem dL_law_1086 : decode cL_law 1086 = .ok (.iadd, 1) := by decide +kernel
theorem dL_law_1087 : decode cL_law 1087 = .ok (.iaload, 1) := by decide +kernel
theorem dL_law_1088 : decode cL_law 1088 = .ok (.invokevirtual 142, 3) := by decide +kernel
theorem dL_law_1091 : decode cL_law 1091 = .ok (.istore 6, 2) := by decide +kernel
theorem dL_law_1093 : decode cL_law 1093 = .ok (.aload_n 2, 1) := by decide +kernel
theorem dL_law_1094 : decode cL_law 1094 = .ok (.invokevirtual 95, 3) := by decide +kernel
theorem dL_law_1097 : decode cL_law 1097 = .ok (.iload 5, 2) := by decide +kernel
theorem dL_law_1099 : decode cL_law 1099 = .ok (.if_icmp .eq 5, 3) := by decide +kernel
theorem dL_law_1102 : decode cL_law 1102 = .ok (.iconst 0, 1) := by decide +kernel
theorem dL_law_1103 : decode cL_law 1103 = .ok (.ireturn, 1) := by decide +kernel
theorem dL_law_1104 : decode cL_law 1104 = .ok (.iload 5, 2) := by decide +kernel
theorem dL_law_1106 : decode cL_law 1106 = .ok (.ifCond .ne 15, 3) := by decide +kernel
theorem dL_law_1109 : decode cL_law 1109 = .ok (.aload_n 3, 1) := by decide +kernel
theorem dL_law_1110 : decode cL_law 1110 = .ok (.iconst 0, 1) := by decide +kernel
theorem dL_law_1111 : decode cL_law 1111 = .ok (.laload, 1) := by decide +kernel
theorem dL_law_1112 : decode cL_law 1112 = .ok (.iload 6, 2) := by decide +kernel
theorem dL_law_1114 : decode cL_law 1114 = .ok (.i2l, 1) := by decide +kernel
theorem dL_law_1115 : decode cL_law 1115 = .ok (.lcmp, 1) := by decide +kernel
theorem dL_law_1116 : decode cL_law 1116 = .ok (.ifCond .eq 5, 3) := by decide +kernel
theorem dL_law_1119 : decode cL_law 1119 = .ok (.iconst 0, 1) := by decide +kernel
theorem dL_law_1120 : decode cL_law 1120 = .ok (.ireturn, 1) := by decide +kernel
theorem dL_law_1121 : decode cL_law 1121 = .ok (.goto 435, 3) := by decide +kernel
theorem dL_law_1124 : decode cL_law 1124 = .ok (.aload_n 1, 1) := by decide +kernel
theorem dL_law_1125 : decode cL_law 1125 = .ok (.aload_n 0, 1) := by decide +kernel
theorem dL_law_1126 : decode cL_law 1126 = .ok (.iload 4, 2) := by decide +kernel
theorem dL_law_1128 : decode cL_law 1128 = .ok (.iconst 1, 1) := by decide +kernel
theorem dL_law_1129 : decode cL_law 1129 = .ok (.iadd, 1) := by decide +kernel
theorem dL_law_1130 : decode cL_law 1130 = .ok (.iaload, 1) := by decide +kernel
theorem dL_law_1131 : decode cL_law 1131 = .ok (.aload_n 3, 1) := by decide +kernel
theorem dL_law_1132 : decode cL_law 1132 = .ok (.invokestatic 143, 3) := by decide +kernel
theorem dL_law_1135 : decode cL_law 1135 = .ok (.istore 5, 2) := by decide +kernel
theorem dL_law_1137 : decode cL_law 1137 = .ok (.aload_n 2, 1) := by decide +kernel
theorem dL_law_1138 : decode cL_law 1138 = .ok (.aload_n 0, 1) := by decide +kernel
theorem dL_law_1139 : decode cL_law 1139 = .ok (.iload 4, 2) := by decide +kernel
theorem dL_law_1141 : decode cL_law 1141 = .ok (.iconst 1, 1) := by decide +kernel
theorem dL_law_1142 : decode cL_law 1142 = .ok (.iadd, 1) := by decide +kernel
theorem dL_law_1143 : decode cL_law 1143 = .ok (.iaload, 1) := by decide +kernel
theorem dL_law_1144 : decode cL_law 1144 = .ok (.invokevirtual 145, 3) := by decide +kernel
theorem dL_law_1147 : decode cL_law 1147 = .ok (.istore 6, 2) := by decide +kernel
theorem dL_law_1149 : decode cL_law 1149 = .ok (.aload_n 2, 1) := by decide +kernel
theorem dL_law_1150 : decode cL_law 1150 = .ok (.invokevirtual 95, 3) := by decide +kernel
theorem dL_law_1153 : decode cL_law 1153 = .ok (.iload 5, 2) := by decide +kernel
theorem dL_law_1155 : decode cL_law 1155 = .ok (.if_icmp .eq 5, 3) := by decide +kernel
theorem dL_law_1158 : decode cL_law 1158 = .ok (.iconst 0, 1) := by decide +kernel
theorem dL_law_1159 : decode cL_law 1159 = .ok (.ireturn, 1) := by decide +kernel
theorem dL_law_1160 : decode cL_law 1160 = .ok (.iload 5, 2) := by decide +kernel
theorem dL_law_1162 : decode cL_law 1162 = .ok (.ifCond .ne 15, 3) := by decide +kernel
theorem dL_law_1165 : decode cL_law 1165 = .ok (.aload_n 3, 1) := by decide +kernel
theorem dL_law_1166 : decode cL_law 1166 = .ok (.iconst 0, 1) := by decide +kernel
theorem dL_law_1167 : decode cL_law 1167 = .ok (.laload, 1) := by decide +kernel
theorem dL_law_1168 : decode cL_law 1168 = .ok (.iload 6, 2) := by decide +kernel
theorem dL_law_1170 : decode cL_law 1170 = .ok (.i2l, 1) := by decide +kernel
theorem dL_law_1171 : decode cL_law 1171 = .ok (.lcmp, 1) := by decide +kernel
theorem dL_law_1172 : decode cL_law 1172 = .ok (.ifCond .eq 5, 3) := by decide +kernel
theorem dL_law_1175 : decode cL_law 1175 = .ok (.iconst 0, 1) := by decide +kernel
theorem dL_law_1176 : decode cL_law 1176 = .ok (.ireturn, 1) := by decide +kernel
theorem dL_law_1177 : decode cL_law 1177 = .ok (.goto 379, 3) := by decide +kernel
theorem dL_law_1180 : decode cL_law 1180 = .ok (.aload_n 1, 1) := by decide +kernel
theorem dL_law_1181 : decode cL_law 1181 = .ok (.aload_n 0, 1) := by decide +kernel
theorem dL_law_1182 : decode cL_law 1182 = .ok (.iload 4, 2) := by decide +kernel
theorem dL_law_1184 : decode cL_law 1184 = .ok (.iconst 1, 1) := by decide +kernel
theorem dL_law_1185 : decode cL_law 1185 = .ok (.iadd, 1) := by decide +kernel
theorem dL_law_1186 : decode cL_law 1186 = .ok (.iaload, 1) := by decide +kernel
theorem dL_law_1187 : decode cL_law 1187 = .ok (.aload_n 0, 1) := by decide +kernel
theorem dL_law_1188 : decode cL_law 1188 = .ok (.iload 4, 2) := by decide +kernel
theorem dL_law_1190 : decode cL_law 1190 = .ok (.iconst 2, 1) := by decide +kernel
theorem dL_law_1191 : decode cL_law 1191 = .ok (.iadd, 1) := by decide +kernel
theorem dL_law_1192 : decode cL_law 1192 = .ok (.iaload, 1) := by decide +kernel
theorem dL_law_1193 : decode cL_law 1193 = .ok (.aload_n 3, 1) := by decide +kernel
theorem dL_law_1194 : decode cL_law 1194 = .ok (.invokestatic 146, 3) := by decide +kernel
theorem dL_law_1197 : decode cL_law 1197 = .ok (.istore 5, 2) := by decide +kernel
theorem dL_law_1199 : decode cL_law 1199 = .ok (.aload_n 2, 1) := by decide +kernel
theorem dL_law_1200 : decode cL_law 1200 = .ok (.aload_n 0, 1) := by decide +kernel
theorem dL_law_1201 : decode cL_law 1201 = .ok (.iload 4, 2) := by decide +kernel
theorem dL_law_1203 : decode cL_law 1203 = .ok (.iconst 1, 1) := by decide +kernel
theorem dL_law_1204 : decode cL_law 1204 = .ok (.iadd, 1) := by decide +kernel
theorem dL_law_1205 : decode cL_law 1205 = .ok (.iaload, 1) := by decide +kernel
theorem dL_law_1206 : decode cL_law 1206 = .ok (.aload_n 0, 1) := by decide +kernel
theorem dL_law_1207 : decode cL_law 1207 = .ok (.iload 4, 2) := by decide +kernel
theorem dL_law_1209 : decode cL_law 1209 = .ok (.iconst 2, 1) := by decide +kernel
theorem dL_law_1210 : decode cL_law 1210 = .ok (.iadd, 1) := by decide +kernel
theorem dL_law_1211 : decode cL_law 1211 = .ok (.iaload, 1) := by decide +kernel
theorem dL_law_1212 : decode cL_law 1212 = .ok (.invokevirtual 148, 3) := by decide +kernel
theorem dL_law_1215 : decode cL_law 1215 = .ok (.istore 6, 2) := by decide +kernel
theorem dL_law_1217 : decode cL_law 1217 = .ok (.aload_n 2, 1) := by decide +kernel
theorem dL_law_1218 : decode cL_law 1218 = .ok (.invokevirtual 95, 3) := by decide +kernel
theorem dL_law_1221 : decode cL_law 1221 = .ok (.iload 5, 2) := by decide +kernel
theorem dL_law_1223 : decode cL_law 1223 = .ok (.if_icmp .eq 5, 3) := by decide +kernel
theorem dL_law_1226 : decode cL_law 1226 = .ok (.iconst 0, 1) := by decide +kernel
theorem dL_law_1227 : decode cL_law 1227 = .ok (.ireturn, 1) := by decide +kernel
theorem dL_law_1228 : decode cL_law 1228 = .ok (.iload 5, 2) := by decide +kernel
theorem dL_law_1230 : decode cL_law 1230 = .ok (.ifCond .ne 15, 3) := by decide +kernel
theorem dL_law_1233 : decode cL_law 1233 = .ok (.aload_n 3, 1) := by decide +kernel
theorem dL_law_1234 : decode cL_law 1234 = .ok (.iconst 0, 1) := by decide +kernel
theorem dL_law_1235 : decode cL_law 1235 = .ok (.laload, 1) := by decide +kernel
theorem dL_law_1236 : decode cL_law 1236 = .ok (.iload 6, 2) := by decide +kernel
theorem dL_law_1238 : decode cL_law 1238 = .ok (.i2l, 1) := by decide +kernel
theorem dL_law_1239 : decode cL_law 1239 = .ok (.lcmp, 1) := by decide +kernel
theorem dL_law_1240 : decode cL_law 1240 = .ok (.ifCond .eq 5, 3) := by decide +kernel
theorem dL_law_1243 : decode cL_law 1243 = .ok (.iconst 0, 1) := by decide +kernel
theorem dL_law_1244 : decode cL_law 1244 = .ok (.ireturn, 1) := by decide +kernel
theorem dL_law_1245 : decode cL_law 1245 = .ok (.goto 311, 3) := by decide +kernel
theorem dL_law_1248 : decode cL_law 1248 = .ok (.aload_n 1, 1) := by decide +kernel
theorem dL_law_1249 : decode cL_law 1249 = .ok (.aload_n 0, 1) := by decide +kernel
theorem dL_law_1250 : decode cL_law 1250 = .ok (.iload 4, 2) := by decide +kernel
theorem dL_law_1252 : decode cL_law 1252 = .ok (.iconst 1, 1) := by decide +kernel
theorem dL_law_1253 : decode cL_law 1253 = .ok (.iadd, 1) := by decide +kernel
theorem dL_law_1254 : decode cL_law 1254 = .ok (.iaload, 1) := by decide +kernel
theorem dL_law_1255 : decode cL_law 1255 = .ok (.aload_n 3, 1) := by decide +kernel
theorem dL_law_1256 : decode cL_law 1256 = .ok (.invokestatic 149, 3) := by decide +kernel
theorem dL_law_1259 : decode cL_law 1259 = .ok (.istore 5, 2) := by decide +kernel
theorem dL_law_1261 : decode cL_law 1261 = .ok (.aload_n 2, 1) := by decide +kernel
theorem dL_law_1262 : decode cL_law 1262 = .ok (.aload_n 0, 1) := by decide +kernel
theorem dL_law_1263 : decode cL_law 1263 = .ok (.iload 4, 2) := by decide +kernel
theorem dL_law_1265 : decode cL_law 1265 = .ok (.iconst 1, 1) := by decide +kernel
theorem dL_law_1266 : decode cL_law 1266 = .ok (.iadd, 1) := by decide +kernel
theorem dL_law_1267 : decode cL_law 1267 = .ok (.iaload, 1) := by decide +kernel
theorem dL_law_1268 : decode cL_law 1268 = .ok (.invokevirtual 151, 3) := by decide +kernel
theorem dL_law_1271 : decode cL_law 1271 = .ok (.istore 6, 2) := by decide +kernel
theorem dL_law_1273 : decode cL_law 1273 = .ok (.aload_n 2, 1) := by decide +kernel
theorem dL_law_1274 : decode cL_law 1274 = .ok (.invokevirtual 95, 3) := by decide +kernel
theorem dL_law_1277 : decode cL_law 1277 = .ok (.iload 5, 2) := by decide +kernel
theorem dL_law_1279 : decode cL_law 1279 = .ok (.if_icmp .eq 5, 3) := by decide +kernel
theorem dL_law_1282 : decode cL_law 1282 = .ok (.iconst 0, 1) := by decide +kernel
theorem dL_law_1283 : decode cL_law 1283 = .ok (.ireturn, 1) := by decide +kernel
theorem dL_law_1284 : decode cL_law 1284 = .ok (.iload 5, 2) := by decide +kernel
theorem dL_law_1286 : decode cL_law 1286 = .ok (.ifCond .ne 15, 3) := by decide +kernel
theorem dL_law_1289 : decode cL_law 1289 = .ok (.aload_n 3, 1) := by decide +kernel
theorem dL_law_1290 : decode cL_law 1290 = .ok (.iconst 0, 1) := by decide +kernel
theorem dL_law_1291 : decode cL_law 1291 = .ok (.laload, 1) := by decide +kernel
theorem dL_law_1292 : decode cL_law 1292 = .ok (.iload 6, 2) := by decide +kernel
theorem dL_law_1294 : decode cL_law 1294 = .ok (.i2l, 1) := by decide +kernel
theorem dL_law_1295 : decode cL_law 1295 = .ok (.lcmp, 1) := by decide +kernel
theorem dL_law_1296 : decode cL_law 1296 = .ok (.ifCond .eq 5, 3) := by decide +kernel
theorem dL_law_1299 : decode cL_law 1299 = .ok (.iconst 0, 1) := by decide +kernel
theorem dL_law_1300 : decode cL_law 1300 = .ok (.ireturn, 1) := by decide +kernel
theorem dL_law_1301 : decode cL_law 1301 = .ok (.goto 255, 3) := by decide +kernel
theorem dL_law_1304 : decode cL_law 1304 = .ok (.aload_n 1, 1) := by decide +kernel
theorem dL_law_1305 : decode cL_law 1305 = .ok (.aload_n 0, 1) := by decide +kernel
theorem dL_law_1306 : decode cL_law 1306 = .ok (.iload 4, 2) := by decide +kernel
theorem dL_law_1308 : decode cL_law 1308 = .ok (.iconst 1, 1) := by decide +kernel
theorem dL_law_1309 : decode cL_law 1309 = .ok (.iadd, 1) := by decide +kernel
theorem dL_law_1310 : decode cL_law 1310 = .ok (.iaload, 1) := by decide +kernel
theorem dL_law_1311 : decode cL_law 1311 = .ok (.aload_n 3, 1) := by decide +kernel
theorem dL_law_1312 : decode cL_law 1312 = .ok (.invokestatic 152, 3) := by decide +kernel
theorem dL_law_1315 : decode cL_law 1315 = .ok (.istore 5, 2) := by decide +kernel
theorem dL_law_1317 : decode cL_law 1317 = .ok (.aload_n 2, 1) := by decide +kernel
theorem dL_law_1318 : decode cL_law 1318 = .ok (.aload_n 0, 1) := by decide +kernel
theorem dL_law_1319 : decode cL_law 1319 = .ok (.iload 4, 2) := by decide +kernel
theorem dL_law_1321 : decode cL_law 1321 = .ok (.iconst 1, 1) := by decide +kernel
theorem dL_law_1322 : decode cL_law 1322 = .ok (.iadd, 1) := by decide +kernel
theorem dL_law_1323 : decode cL_law 1323 = .ok (.iaload, 1) := by decide +kernel
theorem dL_law_1324 : decode cL_law 1324 = .ok (.invokevirtual 154, 3) := by decide +kernel
theorem dL_law_1327 : decode cL_law 1327 = .ok (.istore 6, 2) := by decide +kernel
theorem dL_law_1329 : decode cL_law 1329 = .ok (.aload_n 2, 1) := by decide +kernel
theorem dL_law_1330 : decode cL_law 1330 = .ok (.invokevirtual 95, 3) := by decide +kernel
theorem dL_law_1333 : decode cL_law 1333 = .ok (.iload 5, 2) := by decide +kernel
theorem dL_law_1335 : decode cL_law 1335 = .ok (.if_icmp .eq 5, 3) := by decide +kernel
theorem dL_law_1338 : decode cL_law 1338 = .ok (.iconst 0, 1) := by decide +kernel
theorem dL_law_1339 : decode cL_law 1339 = .ok (.ireturn, 1) := by decide +kernel
theorem dL_law_1340 : decode cL_law 1340 = .ok (.iload 5, 2) := by decide +kernel
theorem dL_law_1342 : decode cL_law 1342 = .ok (.ifCond .ne 15, 3) := by decide +kernel
theorem dL_law_1345 : decode cL_law 1345 = .ok (.aload_n 3, 1) := by decide +kernel
theorem dL_law_1346 : decode cL_law 1346 = .ok (.iconst 0, 1) := by decide +kernel
theorem dL_law_1347 : decode cL_law 1347 = .ok (.laload, 1) := by decide +kernel
theorem dL_law_1348 : decode cL_law 1348 = .ok (.iload 6, 2) := by decide +kernel
theorem dL_law_1350 : decode cL_law 1350 = .ok (.i2l, 1) := by decide +kernel
theorem dL_law_1351 : decode cL_law 1351 = .ok (.lcmp, 1) := by decide +kernel
theorem dL_law_1352 : decode cL_law 1352 = .ok (.ifCond .eq 5, 3) := by decide +kernel
theorem dL_law_1355 : decode cL_law 1355 = .ok (.iconst 0, 1) := by decide +kernel
theorem dL_law_1356 : decode cL_law 1356 = .ok (.ireturn, 1) := by decide +kernel
theorem dL_law_1357 : decode cL_law 1357 = .ok (.goto 199, 3) := by decide +kernel
theorem dL_law_1360 : decode cL_law 1360 = .ok (.aload_n 1, 1) := by decide +kernel
theorem dL_law_1361 : decode cL_law 1361 = .ok (.aload_n 0, 1) := by decide +kernel
theorem dL_law_1362 : decode cL_law 1362 = .ok (.iload 4, 2) := by decide +kernel
theorem dL_law_1364 : decode cL_law 1364 = .ok (.iconst 1, 1) := by decide +kernel
theorem dL_law_1365 : decode cL_law 1365 = .ok (.iadd, 1) := by decide +kernel
theorem dL_law_1366 : decode cL_law 1366 = .ok (.iaload, 1) := by decide +kernel
theorem dL_law_1367 : decode cL_law 1367 = .ok (.aload_n 3, 1) := by decide +kernel
theorem dL_law_1368 : decode cL_law 1368 = .ok (.invokestatic 155, 3) := by decide +kernel
theorem dL_law_1371 : decode cL_law 1371 = .ok (.istore 5, 2) := by decide +kernel
theorem dL_law_1373 : decode cL_law 1373 = .ok (.aload_n 2, 1) := by decide +kernel
theorem dL_law_1374 : decode cL_law 1374 = .ok (.aload_n 0, 1) := by decide +kernel
theorem dL_law_1375 : decode cL_law 1375 = .ok (.iload 4, 2) := by decide +kernel
theorem dL_law_1377 : decode cL_law 1377 = .ok (.iconst 1, 1) := by decide +kernel
theorem dL_law_1378 : decode cL_law 1378 = .ok (.iadd, 1) := by decide +kernel
theorem dL_law_1379 : decode cL_law 1379 = .ok (.iaload, 1) := by decide +kernel
theorem dL_law_1380 : decode cL_law 1380 = .ok (.invokevirtual 157, 3) := by decide +kernel
theorem dL_law_1383 : decode cL_law 1383 = .ok (.istore 6, 2) := by decide +kernel
theorem dL_law_1385 : decode cL_law 1385 = .ok (.aload_n 2, 1) := by decide +kernel
theorem dL_law_1386 : decode cL_law 1386 = .ok (.invokevirtual 95, 3) := by decide +kernel
theorem dL_law_1389 : decode cL_law 1389 = .ok (.iload 5, 2) := by decide +kernel
theorem dL_law_1391 : decode cL_law 1391 = .ok (.if_icmp .eq 5, 3) := by decide +kernel
theorem dL_law_1394 : decode cL_law 1394 = .ok (.iconst 0, 1) := by decide +kernel
theorem dL_law_1395 : decode cL_law 1395 = .ok (.ireturn, 1) := by decide +kernel
theorem dL_law_1396 : decode cL_law 1396 = .ok (.iload 5, 2) := by decide +kernel
theorem dL_law_1398 : decode cL_law 1398 = .ok (.ifCond .ne 15, 3) := by decide +kernel
theorem dL_law_1401 : decode cL_law 1401 = .ok (.aload_n 3, 1) := by decide +kernel
theorem dL_law_1402 : decode cL_law 1402 = .ok (.iconst 0, 1) := by decide +kernel
theorem dL_law_1403 : decode cL_law 1403 = .ok (.laload, 1) := by decide +kernel
theorem dL_law_1404 : decode cL_law 1404 = .ok (.iload 6, 2) := by decide +kernel
theorem dL_law_1406 : decode cL_law 1406 = .ok (.i2l, 1) := by decide +kernel
theorem dL_law_1407 : decode cL_law 1407 = .ok (.lcmp, 1) := by decide +kernel
theorem dL_law_1408 : decode cL_law 1408 = .ok (.ifCond .eq 5, 3) := by decide +kernel
theorem dL_law_1411 : decode cL_law 1411 = .ok (.iconst 0, 1) := by decide +kernel
theorem dL_law_1412 : decode cL_law 1412 = .ok (.ireturn, 1) := by decide +kernel
theorem dL_law_1413 : decode cL_law 1413 = .ok (.goto 143, 3) := by decide +kernel
theorem dL_law_1416 : decode cL_law 1416 = .ok (.aload_n 1, 1) := by decide +kernel
theorem dL_law_1417 : decode cL_law 1417 = .ok (.aload_n 0, 1) := by decide +kernel
theorem dL_law_1418 : decode cL_law 1418 = .ok (.iload 4, 2) := by decide +kernel
theorem dL_law_1420 : decode cL_law 1420 = .ok (.iconst 1, 1) := by decide +kernel
theorem dL_law_1421 : decode cL_law 1421 = .ok (.iadd, 1) := by decide +kernel
theorem dL_law_1422 : decode cL_law 1422 = .ok (.iaload, 1) := by decide +kernel
theorem dL_law_1423 : decode cL_law 1423 = .ok (.aload_n 3, 1) := by decide +kernel
theorem dL_law_1424 : decode cL_law 1424 = .ok (.invokestatic 158, 3) := by decide +kernel
theorem dL_law_1427 : decode cL_law 1427 = .ok (.istore 5, 2) := by decide +kernel
theorem dL_law_1429 : decode cL_law 1429 = .ok (.aload_n 2, 1) := by decide +kernel
theorem dL_law_1430 : decode cL_law 1430 = .ok (.aload_n 0, 1) := by decide +kernel
theorem dL_law_1431 : decode cL_law 1431 = .ok (.iload 4, 2) := by decide +kernel
theorem dL_law_1433 : decode cL_law 1433 = .ok (.iconst 1, 1) := by decide +kernel
theorem dL_law_1434 : decode cL_law 1434 = .ok (.iadd, 1) := by decide +kernel
theorem dL_law_1435 : decode cL_law 1435 = .ok (.iaload, 1) := by decide +kernel
theorem dL_law_1436 : decode cL_law 1436 = .ok (.invokevirtual 160, 3) := by decide +kernel
theorem dL_law_1439 : decode cL_law 1439 = .ok (.istore 6, 2) := by decide +kernel
theorem dL_law_1441 : decode cL_law 1441 = .ok (.aload_n 2, 1) := by decide +kernel
theorem dL_law_1442 : decode cL_law 1442 = .ok (.invokevirtual 95, 3) := by decide +kernel
theorem dL_law_1445 : decode cL_law 1445 = .ok (.iload 5, 2) := by decide +kernel
theorem dL_law_1447 : decode cL_law 1447 = .ok (.if_icmp .eq 5, 3) := by decide +kernel
theorem dL_law_1450 : decode cL_law 1450 = .ok (.iconst 0, 1) := by decide +kernel
theorem dL_law_1451 : decode cL_law 1451 = .ok (.ireturn, 1) := by decide +kernel
theorem dL_law_1452 : decode cL_law 1452 = .ok (.iload 5, 2) := by decide +kernel
theorem dL_law_1454 : decode cL_law 1454 = .ok (.ifCond .ne 15, 3) := by decide +kernel
theorem dL_law_1457 : decode cL_law 1457 = .ok (.aload_n 3, 1) := by decide +kernel
theorem dL_law_1458 : decode cL_law 1458 = .ok (.iconst 0, 1) := by decide +kernel
theorem dL_law_1459 : decode cL_law 1459 = .ok (.laload, 1) := by decide +kernel
theorem dL_law_1460 : decode cL_law 1460 = .ok (.iload 6, 2) := by decide +kernel
theorem dL_law_1462 : decode cL_law 1462 = .ok (.i2l, 1) := by decide +kernel
theorem dL_law_1463 : decode cL_law 1463 = .ok (.lcmp, 1) := by decide +kernel
theorem dL_law_1464 : decode cL_law 1464 = .ok (.ifCond .eq 5, 3) := by decide +kernel
theorem dL_law_1467 : decode cL_law 1467 = .ok (.iconst 0, 1) := by decide +kernel
theorem dL_law_1468 : decode cL_law 1468 = .ok (.ireturn, 1) := by decide +kernel
theorem dL_law_1469 : decode cL_law 1469 = .ok (.goto 87, 3) := by decide +kernel
theorem dL_law_1472 : decode cL_law 1472 = .ok (.aload_n 1, 1) := by decide +kernel
theorem dL_law_1473 : decode cL_law 1473 = .ok (.invokevirtual 161, 3) := by decide +kernel
theorem dL_law_1476 : decode cL_law 1476 = .ok (.aload_n 2, 1) := by decide +kernel
theorem dL_law_1477 : decode cL_law 1477 = .ok (.invokevirtual 164, 3) := by decide +kernel
theorem dL_law_1480 : decode cL_law 1480 = .ok (.if_icmp .eq 76, 3) := by decide +kernel
theorem dL_law_1483 : decode cL_law 1483 = .ok (.iconst 0, 1) := by decide +kernel
theorem dL_law_1484 : decode cL_law 1484 = .ok (.ireturn, 1) := by decide +kernel
theorem dL_law_1485 : decode cL_law 1485 = .ok (.aload_n 1, 1) := by decide +kernel
theorem dL_law_1486 : decode cL_law 1486 = .ok (.invokevirtual 165, 3) := by decide +kernel
theorem dL_law_1489 : decode cL_law 1489 = .ok (.aload_n 2, 1) := by decide +kernel
theorem dL_law_1490 : decode cL_law 1490 = .ok (.invokevirtual 168, 3) := by decide +kernel
theorem dL_law_1493 : decode cL_law 1493 = .ok (.if_icmp .eq 63, 3) := by decide +kernel
theorem dL_law_1496 : decode cL_law 1496 = .ok (.iconst 0, 1) := by decide +kernel
theorem dL_law_1497 : decode cL_law 1497 = .ok (.ireturn, 1) := by decide +kernel
theorem dL_law_1498 : decode cL_law 1498 = .ok (.aload_n 1, 1) := by decide +kernel
theorem dL_law_1499 : decode cL_law 1499 = .ok (.aload_n 3, 1) := by decide +kernel
theorem dL_law_1500 : decode cL_law 1500 = .ok (.invokestatic 169, 3) := by decide +kernel
theorem dL_law_1503 : decode cL_law 1503 = .ok (.istore 5, 2) := by decide +kernel
theorem dL_law_1505 : decode cL_law 1505 = .ok (.aload_n 2, 1) := by decide +kernel
theorem dL_law_1506 : decode cL_law 1506 = .ok (.invokevirtual 171, 3) := by decide +kernel
theorem dL_law_1509 : decode cL_law 1509 = .ok (.istore 6, 2) := by decide +kernel
theorem dL_law_1511 : decode cL_law 1511 = .ok (.aload_n 2, 1) := by decide +kernel
theorem dL_law_1512 : decode cL_law 1512 = .ok (.invokevirtual 95, 3) := by decide +kernel
theorem dL_law_1515 : decode cL_law 1515 = .ok (.iload 5, 2) := by decide +kernel
theorem dL_law_1517 : decode cL_law 1517 = .ok (.if_icmp .eq 5, 3) := by decide +kernel
theorem dL_law_1520 : decode cL_law 1520 = .ok (.iconst 0, 1) := by decide +kernel
theorem dL_law_1521 : decode cL_law 1521 = .ok (.ireturn, 1) := by decide +kernel
theorem dL_law_1522 : decode cL_law 1522 = .ok (.iload 5, 2) := by decide +kernel
theorem dL_law_1524 : decode cL_law 1524 = .ok (.ifCond .ne 15, 3) := by decide +kernel
theorem dL_law_1527 : decode cL_law 1527 = .ok (.aload_n 3, 1) := by decide +kernel
theorem dL_law_1528 : decode cL_law 1528 = .ok (.iconst 0, 1) := by decide +kernel
theorem dL_law_1529 : decode cL_law 1529 = .ok (.laload, 1) := by decide +kernel
theorem dL_law_1530 : decode cL_law 1530 = .ok (.iload 6, 2) := by decide +kernel
theorem dL_law_1532 : decode cL_law 1532 = .ok (.i2l, 1) := by decide +kernel
theorem dL_law_1533 : decode cL_law 1533 = .ok (.lcmp, 1) := by decide +kernel
theorem dL_law_1534 : decode cL_law 1534 = .ok (.ifCond .eq 5, 3) := by decide +kernel
theorem dL_law_1537 : decode cL_law 1537 = .ok (.iconst 0, 1) := by decide +kernel
theorem dL_law_1538 : decode cL_law 1538 = .ok (.ireturn, 1) := by decide +kernel
theorem dL_law_1539 : decode cL_law 1539 = .ok (.goto 17, 3) := by decide +kernel
theorem dL_law_1542 : decode cL_law 1542 = .ok (.aload_n 1, 1) := by decide +kernel
theorem dL_law_1543 : decode cL_law 1543 = .ok (.invokevirtual 172, 3) := by decide +kernel
theorem dL_law_1546 : decode cL_law 1546 = .ok (.aload_n 2, 1) := by decide +kernel
theorem dL_law_1547 : decode cL_law 1547 = .ok (.invokevirtual 176, 3) := by decide +kernel
theorem dL_law_1550 : decode cL_law 1550 = .ok (.lcmp, 1) := by decide +kernel
theorem dL_law_1551 : decode cL_law 1551 = .ok (.ifCond .eq 5, 3) := by decide +kernel
theorem dL_law_1554 : decode cL_law 1554 = .ok (.iconst 0, 1) := by decide +kernel
theorem dL_law_1555 : decode cL_law 1555 = .ok (.ireturn, 1) := by decide +kernel
theorem dL_law_1556 : decode cL_law 1556 = .ok (.iinc 4 4, 3) := by decide +kernel
theorem dL_law_1559 : decode cL_law 1559 = .ok (.goto (-1536), 3) := by decide +kernel
theorem dL_law_1562 : decode cL_law 1562 = .ok (.iconst 1, 1) := by decide +kernel
theorem dL_law_1563 : decode cL_law 1563 = .ok (.ireturn, 1) := by decide +kernel
abbrev vwCl : List vw_C := [(RX1, TX1, 11), (RX2, TX2, 12), (RX3, TX3, 6), (RX4, TX4, 7), (RX5, TX5, 1), (RX6, TX6, 8), (RX7, TX7, 6), (RX8, TX8, 3), (RX9, TX9, 0), (RX10, TX10, 5), (RX11, TX11, 14)]
/-- the tables' words that hold in every later state -/
def TBL : List Cond := lw_tbl.filter goodWord
theorem tb_at {w : Cond} (i : Nat) (h : lw_tbl[i]? = some w) (g : goodWord w = true) : w ∈ TBL := List.mem_filter.mpr ⟨List.mem_of_getElem? h, g⟩
theorem tb_in {w : Cond} (h : w ∈ TBL) : w ∈ lw_tbl := (List.mem_filter.mp h).1
theorem tb_good {w : Cond} (h : w ∈ TBL) : goodWord w = true := (List.mem_filter.mp h).2
theorem q_0 : (.selects RX3 yX3_skipSpaces yX3_skipSpaces : Cond) ∈ TBL := tb_at 0 (by decide +kernel) (by decide +kernel)
theorem q_1 : (.selects RX3 yX3_byteAt yX3_byteAt : Cond) ∈ TBL := tb_at 1 (by decide +kernel) (by decide +kernel)
theorem q_2 : (.selects RX3 yX3_readWord yX3_readWord : Cond) ∈ TBL := tb_at 2 (by decide +kernel) (by decide +kernel)
theorem q_3 : (.selects RX9 yX9_stands yX9_stands : Cond) ∈ TBL := tb_at 3 (by decide +kernel) (by decide +kernel)
theorem q_4 : (.selects RX3 yX3_readNumber yX3_readNumber : Cond) ∈ TBL := tb_at 4 (by decide +kernel) (by decide +kernel)
theorem q_5 : (.selects RX3 yX3_readByte yX3_readByte : Cond) ∈ TBL := tb_at 5 (by decide +kernel) (by decide +kernel)
theorem q_6 : (.selects RX8 yX8_placeOf yX8_placeOf : Cond) ∈ TBL := tb_at 6 (by decide +kernel) (by decide +kernel)
theorem q_7 : (.selects RX10 yX10_faultOfCommand yX10_faultOfCommand : Cond) ∈ TBL := tb_at 7 (by decide +kernel) (by decide +kernel)
theorem q_8 : (.selects RX10 yX10_carryOutCommand yX10_carryOutCommand : Cond) ∈ TBL := tb_at 8 (by decide +kernel) (by decide +kernel)
theorem q_9 : (.selects RX6 yX6_shadeOf yX6_shadeOf : Cond) ∈ TBL := tb_at 9 (by decide +kernel) (by decide +kernel)
theorem q_10 : (.selects RX2 yX2_findRange yX2_findRange : Cond) ∈ TBL := tb_at 10 (by decide +kernel) (by decide +kernel)
theorem q_11 : (.selects RX2 yX2_tallyPrices yX2_tallyPrices : Cond) ∈ TBL := tb_at 11 (by decide +kernel) (by decide +kernel)
theorem q_12 : (.selects RX2 yX2_take yX2_take : Cond) ∈ TBL := tb_at 12 (by decide +kernel) (by decide +kernel)
theorem q_13 : (.selects RX2 yX2_sumSurplus yX2_sumSurplus : Cond) ∈ TBL := tb_at 13 (by decide +kernel) (by decide +kernel)
theorem q_14 : (.selects RX10 yX10_wholeValue yX10_wholeValue : Cond) ∈ TBL := tb_at 14 (by decide +kernel) (by decide +kernel)
theorem q_15 : (.selects RX2 yX2_findGreatest yX2_findGreatest : Cond) ∈ TBL := tb_at 15 (by decide +kernel) (by decide +kernel)
theorem q_16 : (.selects RX2 yX2_tallyValues yX2_tallyValues : Cond) ∈ TBL := tb_at 16 (by decide +kernel) (by decide +kernel)
theorem q_17 : (.selects RX2 yX2_hundredthsOf yX2_hundredthsOf : Cond) ∈ TBL := tb_at 17 (by decide +kernel) (by decide +kernel)
theorem q_18 : (.selects RX10 yX10_mixTraders yX10_mixTraders : Cond) ∈ TBL := tb_at 18 (by decide +kernel) (by decide +kernel)
theorem q_19 : (.selects RX10 yX10_mixOrders yX10_mixOrders : Cond) ∈ TBL := tb_at 19 (by decide +kernel) (by decide +kernel)
theorem q_20 : (.selects RX10 yX10_mixTrades yX10_mixTrades : Cond) ∈ TBL := tb_at 20 (by decide +kernel) (by decide +kernel)
theorem q_21 : (.selects "java/lang/Throwable" ⟨"java/lang/Throwable", "fillInStackTrace", "(I)Ljava/lang/Throwable;"⟩ ⟨"java/lang/Throwable", "fillInStackTrace", "(I)Ljava/lang/Throwable;"⟩ : Cond) ∈ TBL := tb_at 21 (by decide +kernel) (by decide +kernel)
theorem q_22 : (.selects RX10 yX10_bestShadeOfLastOrder yX10_bestShadeOfLastOrder : Cond) ∈ TBL := tb_at 22 (by decide +kernel) (by decide +kernel)
theorem q_23 : (.selects RX11 yX11_brings yX11_brings : Cond) ∈ TBL := tb_at 23 (by decide +kernel) (by decide +kernel)
theorem q_24 : (.selects RX11 yX11_traderError yX11_traderError : Cond) ∈ TBL := tb_at 24 (by decide +kernel) (by decide +kernel)
theorem q_25 : (.selects RX11 yX11_records yX11_records : Cond) ∈ TBL := tb_at 25 (by decide +kernel) (by decide +kernel)
theorem q_26 : (.selects RX11 yX11_keeps yX11_keeps : Cond) ∈ TBL := tb_at 26 (by decide +kernel) (by decide +kernel)
theorem q_27 : (.selects RX11 yX11_addsTrader yX11_addsTrader : Cond) ∈ TBL := tb_at 27 (by decide +kernel) (by decide +kernel)
theorem q_28 : (.selects RX11 yX11_setsT yX11_setsT : Cond) ∈ TBL := tb_at 28 (by decide +kernel) (by decide +kernel)
theorem q_29 : (.selects RX11 yX11_isTrader yX11_isTrader : Cond) ∈ TBL := tb_at 29 (by decide +kernel) (by decide +kernel)
theorem q_30 : (.selects RX11 yX11_ofT yX11_ofT : Cond) ∈ TBL := tb_at 30 (by decide +kernel) (by decide +kernel)
theorem q_31 : (.selects RX11 yX11_shadeError yX11_shadeError : Cond) ∈ TBL := tb_at 31 (by decide +kernel) (by decide +kernel)
theorem q_32 : (.selects RX11 yX11_shades yX11_shades : Cond) ∈ TBL := tb_at 32 (by decide +kernel) (by decide +kernel)
theorem q_33 : (.selects RX11 yX11_bidOf yX11_bidOf : Cond) ∈ TBL := tb_at 33 (by decide +kernel) (by decide +kernel)
theorem q_34 : (.selects RX11 yX11_bidBy yX11_bidBy : Cond) ∈ TBL := tb_at 34 (by decide +kernel) (by decide +kernel)
theorem q_35 : (.selects RX11 yX11_sets yX11_sets : Cond) ∈ TBL := tb_at 35 (by decide +kernel) (by decide +kernel)
theorem q_36 : (.selects RX11 yX11_orderError yX11_orderError : Cond) ∈ TBL := tb_at 36 (by decide +kernel) (by decide +kernel)
theorem q_37 : (.selects RX11 yX11_places yX11_places : Cond) ∈ TBL := tb_at 37 (by decide +kernel) (by decide +kernel)
theorem q_38 : (.selects RX11 yX11_setsO yX11_setsO : Cond) ∈ TBL := tb_at 38 (by decide +kernel) (by decide +kernel)
theorem q_39 : (.selects RX11 yX11_ofO yX11_ofO : Cond) ∈ TBL := tb_at 39 (by decide +kernel) (by decide +kernel)
theorem q_40 : (.selects RX11 yX11_find yX11_find : Cond) ∈ TBL := tb_at 40 (by decide +kernel) (by decide +kernel)
theorem q_41 : (.selects RX11 yX11_cancels yX11_cancels : Cond) ∈ TBL := tb_at 41 (by decide +kernel) (by decide +kernel)
theorem q_42 : (.selects RX11 yX11_removes yX11_removes : Cond) ∈ TBL := tb_at 42 (by decide +kernel) (by decide +kernel)
theorem q_43 : (.selects RX11 yX11_clearError yX11_clearError : Cond) ∈ TBL := tb_at 43 (by decide +kernel) (by decide +kernel)
theorem q_44 : (.selects RX11 yX11_clears yX11_clears : Cond) ∈ TBL := tb_at 44 (by decide +kernel) (by decide +kernel)
theorem q_45 : (.selects RX11 yX11_finds yX11_finds : Cond) ∈ TBL := tb_at 45 (by decide +kernel) (by decide +kernel)
theorem q_46 : (.selects RX11 yX11_volumeAt yX11_volumeAt : Cond) ∈ TBL := tb_at 46 (by decide +kernel) (by decide +kernel)
theorem q_47 : (.selects RX11 yX11_unitsAt yX11_unitsAt : Cond) ∈ TBL := tb_at 47 (by decide +kernel) (by decide +kernel)
theorem q_48 : (.selects RX11 yX11_sideOf yX11_sideOf : Cond) ∈ TBL := tb_at 48 (by decide +kernel) (by decide +kernel)
theorem q_49 : (.selects RX11 yX11_isGood yX11_isGood : Cond) ∈ TBL := tb_at 49 (by decide +kernel) (by decide +kernel)
theorem q_50 : (.selects RX11 yX11_trades yX11_trades : Cond) ∈ TBL := tb_at 50 (by decide +kernel) (by decide +kernel)
theorem q_51 : (.selects RX11 yX11_orderAt yX11_orderAt : Cond) ∈ TBL := tb_at 51 (by decide +kernel) (by decide +kernel)
theorem q_52 : (.selects RX11 yX11_placeOf yX11_placeOf : Cond) ∈ TBL := tb_at 52 (by decide +kernel) (by decide +kernel)
theorem q_53 : (.selects RX11 yX11_isAhead yX11_isAhead : Cond) ∈ TBL := tb_at 53 (by decide +kernel) (by decide +kernel)
theorem q_54 : (.selects RX11 yX11_fillOf yX11_fillOf : Cond) ∈ TBL := tb_at 54 (by decide +kernel) (by decide +kernel)
theorem q_55 : (.selects RX11 yX11_adds yX11_adds : Cond) ∈ TBL := tb_at 55 (by decide +kernel) (by decide +kernel)
theorem q_56 : (.selects RX11 yX11_surplusNow yX11_surplusNow : Cond) ∈ TBL := tb_at 56 (by decide +kernel) (by decide +kernel)
theorem q_57 : (.selects RX11 yX11_gainsOf yX11_gainsOf : Cond) ∈ TBL := tb_at 57 (by decide +kernel) (by decide +kernel)
theorem q_58 : (.selects RX11 yX11_gainOf yX11_gainOf : Cond) ∈ TBL := tb_at 58 (by decide +kernel) (by decide +kernel)
theorem q_59 : (.selects RX11 yX11_settles yX11_settles : Cond) ∈ TBL := tb_at 59 (by decide +kernel) (by decide +kernel)
theorem q_60 : (.selects RX11 yX11_learns yX11_learns : Cond) ∈ TBL := tb_at 60 (by decide +kernel) (by decide +kernel)
theorem q_61 : (.selects RX11 yX11_outcome yX11_outcome : Cond) ∈ TBL := tb_at 61 (by decide +kernel) (by decide +kernel)
theorem q_62 : (.selects RX11 yX11_empties yX11_empties : Cond) ∈ TBL := tb_at 62 (by decide +kernel) (by decide +kernel)
theorem q_63 : (.selects RX11 yX11_tellsTrader yX11_tellsTrader : Cond) ∈ TBL := tb_at 63 (by decide +kernel) (by decide +kernel)
theorem q_64 : (.selects RX11 yX11_ordersOf yX11_ordersOf : Cond) ∈ TBL := tb_at 64 (by decide +kernel) (by decide +kernel)
theorem q_65 : (.selects RX11 yX11_tellsOrder yX11_tellsOrder : Cond) ∈ TBL := tb_at 65 (by decide +kernel) (by decide +kernel)
theorem q_66 : (.selects RX11 yX11_tellsNow yX11_tellsNow : Cond) ∈ TBL := tb_at 66 (by decide +kernel) (by decide +kernel)
theorem q_67 : (.selects RX11 yX11_greatest yX11_greatest : Cond) ∈ TBL := tb_at 67 (by decide +kernel) (by decide +kernel)
theorem q_68 : (.selects RX11 yX11_unitsBy yX11_unitsBy : Cond) ∈ TBL := tb_at 68 (by decide +kernel) (by decide +kernel)
theorem q_69 : (.selects RX11 yX11_tellsWhole yX11_tellsWhole : Cond) ∈ TBL := tb_at 69 (by decide +kernel) (by decide +kernel)
theorem q_70 : (.selects RX11 yX11_filledOf yX11_filledOf : Cond) ∈ TBL := tb_at 70 (by decide +kernel) (by decide +kernel)
theorem q_71 : (.selects RX11 yX11_gainBy yX11_gainBy : Cond) ∈ TBL := tb_at 71 (by decide +kernel) (by decide +kernel)
theorem q_72 : (.selects RX11 yX11_faultOf yX11_faultOf : Cond) ∈ TBL := tb_at 72 (by decide +kernel) (by decide +kernel)
theorem q_73 : (.selects RX11 yX11_passesSpaces yX11_passesSpaces : Cond) ∈ TBL := tb_at 73 (by decide +kernel) (by decide +kernel)
theorem q_74 : (.selects RX11 yX11_isHere yX11_isHere : Cond) ∈ TBL := tb_at 74 (by decide +kernel) (by decide +kernel)
theorem q_75 : (.selects RX11 yX11_passesCommand yX11_passesCommand : Cond) ∈ TBL := tb_at 75 (by decide +kernel) (by decide +kernel)
theorem q_76 : (.selects RX11 yX11_readsWord yX11_readsWord : Cond) ∈ TBL := tb_at 76 (by decide +kernel) (by decide +kernel)
theorem q_77 : (.selects RX11 yX11_passesNumber yX11_passesNumber : Cond) ∈ TBL := tb_at 77 (by decide +kernel) (by decide +kernel)
theorem q_78 : (.selects RX11 yX11_does yX11_does : Cond) ∈ TBL := tb_at 78 (by decide +kernel) (by decide +kernel)
theorem q_79 : (.selects RX11 yX11_digestTrader yX11_digestTrader : Cond) ∈ TBL := tb_at 79 (by decide +kernel) (by decide +kernel)
theorem q_80 : (.selects RX11 yX11_digestOrder yX11_digestOrder : Cond) ∈ TBL := tb_at 80 (by decide +kernel) (by decide +kernel)
theorem q_81 : (.initialized RL : Cond) ∈ TBL := tb_at 81 (by decide +kernel) (by decide +kernel)
theorem q_82 : (.initialized RX10 : Cond) ∈ TBL := tb_at 82 (by decide +kernel) (by decide +kernel)
theorem q_83 : (.initialized RX1 : Cond) ∈ TBL := tb_at 83 (by decide +kernel) (by decide +kernel)
theorem q_84 : (.initialized RX6 : Cond) ∈ TBL := tb_at 84 (by decide +kernel) (by decide +kernel)
theorem q_85 : (.initialized RX5 : Cond) ∈ TBL := tb_at 85 (by decide +kernel) (by decide +kernel)
theorem q_86 : (.initialized RX4 : Cond) ∈ TBL := tb_at 86 (by decide +kernel) (by decide +kernel)
theorem q_87 : (.initialized RX7 : Cond) ∈ TBL := tb_at 87 (by decide +kernel) (by decide +kernel)
theorem q_88 : (.initialized RX2 : Cond) ∈ TBL := tb_at 88 (by decide +kernel) (by decide +kernel)
theorem q_89 : (.initialized RX8 : Cond) ∈ TBL := tb_at 89 (by decide +kernel) (by decide +kernel)
theorem q_90 : (.initialized RX3 : Cond) ∈ TBL := tb_at 90 (by decide +kernel) (by decide +kernel)
theorem q_91 : (.initialized RX11 : Cond) ∈ TBL := tb_at 91 (by decide +kernel) (by decide +kernel)
theorem q_92 : (.initialized "java/lang/Throwable" : Cond) ∈ TBL := tb_at 92 (by decide +kernel) (by decide +kernel)
theorem q_93 : (.initialized "java/lang/Exception" : Cond) ∈ TBL := tb_at 93 (by decide +kernel) (by decide +kernel)
theorem q_94 : (.initialized "java/lang/RuntimeException" : Cond) ∈ TBL := tb_at 94 (by decide +kernel) (by decide +kernel)
theorem q_95 : (.initialized "java/lang/IndexOutOfBoundsException" : Cond) ∈ TBL := tb_at 95 (by decide +kernel) (by decide +kernel)
theorem q_96 : (.initialized "java/lang/IllegalArgumentException" : Cond) ∈ TBL := tb_at 96 (by decide +kernel) (by decide +kernel)
theorem q_97 : (.initialized "java/lang/IllegalStateException" : Cond) ∈ TBL := tb_at 97 (by decide +kernel) (by decide +kernel)
theorem q_98 : (.initialized RJ9 : Cond) ∈ TBL := tb_at 98 (by decide +kernel) (by decide +kernel)
theorem q_99 : (.initialized RJx29ce0 : Cond) ∈ TBL := tb_at 99 (by decide +kernel) (by decide +kernel)
theorem q_100 : (.initialized RX9 : Cond) ∈ TBL := tb_at 100 (by decide +kernel) (by decide +kernel)
theorem q_101 : (.initialized RJ0 : Cond) ∈ TBL := tb_at 101 (by decide +kernel) (by decide +kernel)
theorem q_102 : (.initialized RJ1 : Cond) ∈ TBL := tb_at 102 (by decide +kernel) (by decide +kernel)
theorem q_103 : (.initialized RJ3 : Cond) ∈ TBL := tb_at 103 (by decide +kernel) (by decide +kernel)
theorem q_104 : (.initialized RJ2 : Cond) ∈ TBL := tb_at 104 (by decide +kernel) (by decide +kernel)
theorem q_105 : (.initialized RX0 : Cond) ∈ TBL := tb_at 105 (by decide +kernel) (by decide +kernel)
theorem q_106 : (.classLink RL 8 RX10 : Cond) ∈ TBL := tb_at 106 (by decide +kernel) (by decide +kernel)
theorem q_107 : (.instantiable RX10 5 : Cond) ∈ TBL := tb_at 107 (by decide +kernel) (by decide +kernel)
theorem q_108 : (.methodLink RL 85 yX10_init : Cond) ∈ TBL := tb_at 108 (by decide +kernel) (by decide +kernel)
theorem q_109 : (.instanceMethod yX10_init : Cond) ∈ TBL := tb_at 109 (by decide +kernel) (by decide +kernel)
theorem q_110 : (.code yX10_init cX10_init 1 Option.none : Cond) ∈ TBL := tb_at 110 (by decide +kernel) (by decide +kernel)
theorem q_111 : (.methodLink RX10 1 ⟨"java/lang/Object", "<init>", "()V"⟩ : Cond) ∈ TBL := tb_at 111 (by decide +kernel) (by decide +kernel)
theorem q_112 : (.instanceMethod ⟨"java/lang/Object", "<init>", "()V"⟩ : Cond) ∈ TBL := tb_at 112 (by decide +kernel) (by decide +kernel)
theorem q_113 : (.code ⟨"java/lang/Object", "<init>", "()V"⟩ object_method_1_code 1 Option.none : Cond) ∈ TBL := tb_at 113 (by decide +kernel) (by decide +kernel)
theorem q_114 : (.classLink RX10 7 RX1 : Cond) ∈ TBL := tb_at 114 (by decide +kernel) (by decide +kernel)
theorem q_115 : (.instantiable RX1 11 : Cond) ∈ TBL := tb_at 115 (by decide +kernel) (by decide +kernel)
theorem q_117 : (.instanceMethod yX1_init : Cond) ∈ TBL := tb_at 117 (by decide +kernel) (by decide +kernel)
theorem q_118 : (.code yX1_init cX1_init 1 Option.none : Cond) ∈ TBL := tb_at 118 (by decide +kernel) (by decide +kernel)
theorem q_119 : (.methodLink RX1 3 ⟨"java/lang/Object", "<init>", "()V"⟩ : Cond) ∈ TBL := tb_at 119 (by decide +kernel) (by decide +kernel)
theorem q_120 : (.classLink RX1 9 RX6 : Cond) ∈ TBL := tb_at 120 (by decide +kernel) (by decide +kernel)
theorem q_121 : (.instantiable RX6 8 : Cond) ∈ TBL := tb_at 121 (by decide +kernel) (by decide +kernel)
theorem q_123 : (.instanceMethod yX6_init : Cond) ∈ TBL := tb_at 123 (by decide +kernel) (by decide +kernel)
theorem q_124 : (.code yX6_init cX6_init 1 Option.none : Cond) ∈ TBL := tb_at 124 (by decide +kernel) (by decide +kernel)
theorem q_125 : (.methodLink RX6 3 ⟨"java/lang/Object", "<init>", "()V"⟩ : Cond) ∈ TBL := tb_at 125 (by decide +kernel) (by decide +kernel)
theorem q_126 : (.classLink RX6 9 RX5 : Cond) ∈ TBL := tb_at 126 (by decide +kernel) (by decide +kernel)
theorem q_127 : (.instantiable RX5 1 : Cond) ∈ TBL := tb_at 127 (by decide +kernel) (by decide +kernel)
theorem q_128 : (.methodLink RX6 11 yX5_init : Cond) ∈ TBL := tb_at 128 (by decide +kernel) (by decide +kernel)
theorem q_129 : (.instanceMethod yX5_init : Cond) ∈ TBL := tb_at 129 (by decide +kernel) (by decide +kernel)
theorem q_130 : (.code yX5_init cX5_init 2 Option.none : Cond) ∈ TBL := tb_at 130 (by decide +kernel) (by decide +kernel)
theorem q_131 : (.methodLink RX5 1 ⟨"java/lang/Object", "<init>", "()V"⟩ : Cond) ∈ TBL := tb_at 131 (by decide +kernel) (by decide +kernel)
theorem q_132 : (.fieldLink RX5 7 RX5 "cells" "[I" : Cond) ∈ TBL := tb_at 132 (by decide +kernel) (by decide +kernel)
theorem q_135 : (.superclass RX5 "java/lang/Object" : Cond) ∈ TBL := tb_at 135 (by decide +kernel) (by decide +kernel)
theorem q_136 : (.arrayClass FieldType.int : Cond) ∈ TBL := tb_at 136 (by decide +kernel) (by decide +kernel)
theorem q_137 : (.fieldLink RX6 38 RX6 "count" "I" : Cond) ∈ TBL := tb_at 137 (by decide +kernel) (by decide +kernel)
theorem q_138 : (.fieldLink RX1 46 RX6 "count" "I" : Cond) ∈ TBL := tb_at 138 (by decide +kernel) (by decide +kernel)
theorem q_139 : (.fieldLink RX10 238 RX6 "count" "I" : Cond) ∈ TBL := tb_at 139 (by decide +kernel) (by decide +kernel)
theorem q_140 : (.fieldLink RX6 14 RX6 "side" "LShadedBooks$Row;" : Cond) ∈ TBL := tb_at 140 (by decide +kernel) (by decide +kernel)
theorem q_141 : (.fieldLink RX1 67 RX6 "side" "LShadedBooks$Row;" : Cond) ∈ TBL := tb_at 141 (by decide +kernel) (by decide +kernel)
theorem q_142 : (.fieldLink RX6 20 RX6 "value" "LShadedBooks$Row;" : Cond) ∈ TBL := tb_at 142 (by decide +kernel) (by decide +kernel)
theorem q_143 : (.fieldLink RX10 64 RX6 "value" "LShadedBooks$Row;" : Cond) ∈ TBL := tb_at 143 (by decide +kernel) (by decide +kernel)
theorem q_144 : (.fieldLink RX1 138 RX6 "value" "LShadedBooks$Row;" : Cond) ∈ TBL := tb_at 144 (by decide +kernel) (by decide +kernel)
theorem q_145 : (.fieldLink RX2 155 RX6 "value" "LShadedBooks$Row;" : Cond) ∈ TBL := tb_at 145 (by decide +kernel) (by decide +kernel)
theorem q_146 : (.fieldLink RX6 23 RX6 "kind" "LShadedBooks$Row;" : Cond) ∈ TBL := tb_at 146 (by decide +kernel) (by decide +kernel)
theorem q_147 : (.fieldLink RX1 141 RX6 "kind" "LShadedBooks$Row;" : Cond) ∈ TBL := tb_at 147 (by decide +kernel) (by decide +kernel)
theorem q_148 : (.fieldLink RX6 26 RX6 "amount" "LShadedBooks$Row;" : Cond) ∈ TBL := tb_at 148 (by decide +kernel) (by decide +kernel)
theorem q_149 : (.fieldLink RX1 144 RX6 "amount" "LShadedBooks$Row;" : Cond) ∈ TBL := tb_at 149 (by decide +kernel) (by decide +kernel)
theorem q_150 : (.fieldLink RX6 29 RX6 "traded" "LShadedBooks$Row;" : Cond) ∈ TBL := tb_at 150 (by decide +kernel) (by decide +kernel)
theorem q_151 : (.fieldLink RX1 153 RX6 "traded" "LShadedBooks$Row;" : Cond) ∈ TBL := tb_at 151 (by decide +kernel) (by decide +kernel)
theorem q_152 : (.fieldLink RX6 32 RX6 "gains" "LShadedBooks$Row;" : Cond) ∈ TBL := tb_at 152 (by decide +kernel) (by decide +kernel)
theorem q_153 : (.fieldLink RX1 155 RX6 "gains" "LShadedBooks$Row;" : Cond) ∈ TBL := tb_at 153 (by decide +kernel) (by decide +kernel)
theorem q_154 : (.fieldLink RX6 35 RX6 "money" "LShadedBooks$Row;" : Cond) ∈ TBL := tb_at 154 (by decide +kernel) (by decide +kernel)
theorem q_155 : (.fieldLink RX1 158 RX6 "money" "LShadedBooks$Row;" : Cond) ∈ TBL := tb_at 155 (by decide +kernel) (by decide +kernel)
theorem q_172 : (.superclass RX6 "java/lang/Object" : Cond) ∈ TBL := tb_at 172 (by decide +kernel) (by decide +kernel)
theorem q_173 : (.classLink RX1 18 RX4 : Cond) ∈ TBL := tb_at 173 (by decide +kernel) (by decide +kernel)
theorem q_174 : (.instantiable RX4 7 : Cond) ∈ TBL := tb_at 174 (by decide +kernel) (by decide +kernel)
theorem q_176 : (.instanceMethod yX4_init : Cond) ∈ TBL := tb_at 176 (by decide +kernel) (by decide +kernel)
theorem q_177 : (.code yX4_init cX4_init 1 Option.none : Cond) ∈ TBL := tb_at 177 (by decide +kernel) (by decide +kernel)
theorem q_178 : (.methodLink RX4 3 ⟨"java/lang/Object", "<init>", "()V"⟩ : Cond) ∈ TBL := tb_at 178 (by decide +kernel) (by decide +kernel)
theorem q_179 : (.classLink RX4 9 RX5 : Cond) ∈ TBL := tb_at 179 (by decide +kernel) (by decide +kernel)
theorem q_180 : (.methodLink RX4 11 yX5_init : Cond) ∈ TBL := tb_at 180 (by decide +kernel) (by decide +kernel)
theorem q_181 : (.fieldLink RX4 35 RX4 "count" "I" : Cond) ∈ TBL := tb_at 181 (by decide +kernel) (by decide +kernel)
theorem q_182 : (.fieldLink RX2 101 RX4 "count" "I" : Cond) ∈ TBL := tb_at 182 (by decide +kernel) (by decide +kernel)
theorem q_183 : (.fieldLink RX1 118 RX4 "count" "I" : Cond) ∈ TBL := tb_at 183 (by decide +kernel) (by decide +kernel)
theorem q_184 : (.fieldLink RX10 239 RX4 "count" "I" : Cond) ∈ TBL := tb_at 184 (by decide +kernel) (by decide +kernel)
theorem q_185 : (.fieldLink RX4 14 RX4 "number" "LShadedBooks$Row;" : Cond) ∈ TBL := tb_at 185 (by decide +kernel) (by decide +kernel)
theorem q_186 : (.fieldLink RX7 36 RX4 "number" "LShadedBooks$Row;" : Cond) ∈ TBL := tb_at 186 (by decide +kernel) (by decide +kernel)
theorem q_187 : (.fieldLink RX10 240 RX4 "number" "LShadedBooks$Row;" : Cond) ∈ TBL := tb_at 187 (by decide +kernel) (by decide +kernel)
theorem q_188 : (.fieldLink RX4 20 RX4 "trader" "LShadedBooks$Row;" : Cond) ∈ TBL := tb_at 188 (by decide +kernel) (by decide +kernel)
theorem q_189 : (.fieldLink RX7 49 RX4 "trader" "LShadedBooks$Row;" : Cond) ∈ TBL := tb_at 189 (by decide +kernel) (by decide +kernel)
theorem q_190 : (.fieldLink RX2 104 RX4 "trader" "LShadedBooks$Row;" : Cond) ∈ TBL := tb_at 190 (by decide +kernel) (by decide +kernel)
theorem q_191 : (.fieldLink RX4 23 RX4 "side" "LShadedBooks$Row;" : Cond) ∈ TBL := tb_at 191 (by decide +kernel) (by decide +kernel)
theorem q_192 : (.fieldLink RX2 133 RX4 "side" "LShadedBooks$Row;" : Cond) ∈ TBL := tb_at 192 (by decide +kernel) (by decide +kernel)
theorem q_193 : (.fieldLink RX4 26 RX4 "price" "LShadedBooks$Row;" : Cond) ∈ TBL := tb_at 193 (by decide +kernel) (by decide +kernel)
theorem q_194 : (.fieldLink RX2 150 RX4 "price" "LShadedBooks$Row;" : Cond) ∈ TBL := tb_at 194 (by decide +kernel) (by decide +kernel)
theorem q_195 : (.fieldLink RX10 269 RX4 "price" "LShadedBooks$Row;" : Cond) ∈ TBL := tb_at 195 (by decide +kernel) (by decide +kernel)
theorem q_196 : (.fieldLink RX4 29 RX4 "units" "LShadedBooks$Row;" : Cond) ∈ TBL := tb_at 196 (by decide +kernel) (by decide +kernel)
theorem q_197 : (.fieldLink RX2 92 RX4 "units" "LShadedBooks$Row;" : Cond) ∈ TBL := tb_at 197 (by decide +kernel) (by decide +kernel)
theorem q_198 : (.fieldLink RX1 119 RX4 "units" "LShadedBooks$Row;" : Cond) ∈ TBL := tb_at 198 (by decide +kernel) (by decide +kernel)
theorem q_199 : (.fieldLink RX4 32 RX4 "round" "LShadedBooks$Row;" : Cond) ∈ TBL := tb_at 199 (by decide +kernel) (by decide +kernel)
theorem q_214 : (.superclass RX4 "java/lang/Object" : Cond) ∈ TBL := tb_at 214 (by decide +kernel) (by decide +kernel)
theorem q_215 : (.classLink RX1 25 RX7 : Cond) ∈ TBL := tb_at 215 (by decide +kernel) (by decide +kernel)
theorem q_216 : (.instantiable RX7 6 : Cond) ∈ TBL := tb_at 216 (by decide +kernel) (by decide +kernel)
theorem q_218 : (.instanceMethod yX7_init : Cond) ∈ TBL := tb_at 218 (by decide +kernel) (by decide +kernel)
theorem q_219 : (.code yX7_init cX7_init 1 Option.none : Cond) ∈ TBL := tb_at 219 (by decide +kernel) (by decide +kernel)
theorem q_220 : (.methodLink RX7 3 ⟨"java/lang/Object", "<init>", "()V"⟩ : Cond) ∈ TBL := tb_at 220 (by decide +kernel) (by decide +kernel)
theorem q_221 : (.classLink RX7 9 RX5 : Cond) ∈ TBL := tb_at 221 (by decide +kernel) (by decide +kernel)
theorem q_222 : (.methodLink RX7 11 yX5_init : Cond) ∈ TBL := tb_at 222 (by decide +kernel) (by decide +kernel)
theorem q_223 : (.fieldLink RX7 32 RX7 "count" "I" : Cond) ∈ TBL := tb_at 223 (by decide +kernel) (by decide +kernel)
theorem q_224 : (.fieldLink RX2 121 RX7 "count" "I" : Cond) ∈ TBL := tb_at 224 (by decide +kernel) (by decide +kernel)
theorem q_225 : (.fieldLink RX1 161 RX7 "count" "I" : Cond) ∈ TBL := tb_at 225 (by decide +kernel) (by decide +kernel)
theorem q_226 : (.fieldLink RX10 243 RX7 "count" "I" : Cond) ∈ TBL := tb_at 226 (by decide +kernel) (by decide +kernel)
theorem q_227 : (.fieldLink RX7 14 RX7 "bought" "LShadedBooks$Row;" : Cond) ∈ TBL := tb_at 227 (by decide +kernel) (by decide +kernel)
theorem q_228 : (.fieldLink RX7 20 RX7 "sold" "LShadedBooks$Row;" : Cond) ∈ TBL := tb_at 228 (by decide +kernel) (by decide +kernel)
theorem q_229 : (.fieldLink RX7 23 RX7 "units" "LShadedBooks$Row;" : Cond) ∈ TBL := tb_at 229 (by decide +kernel) (by decide +kernel)
theorem q_230 : (.fieldLink RX7 26 RX7 "buyer" "LShadedBooks$Row;" : Cond) ∈ TBL := tb_at 230 (by decide +kernel) (by decide +kernel)
theorem q_231 : (.fieldLink RX7 29 RX7 "seller" "LShadedBooks$Row;" : Cond) ∈ TBL := tb_at 231 (by decide +kernel) (by decide +kernel)
theorem q_244 : (.superclass RX7 "java/lang/Object" : Cond) ∈ TBL := tb_at 244 (by decide +kernel) (by decide +kernel)
theorem q_245 : (.fieldLink RX1 12 RX1 "traders" "LShadedBooks$Traders;" : Cond) ∈ TBL := tb_at 245 (by decide +kernel) (by decide +kernel)
theorem q_246 : (.fieldLink RX10 52 RX1 "traders" "LShadedBooks$Traders;" : Cond) ∈ TBL := tb_at 246 (by decide +kernel) (by decide +kernel)
theorem q_247 : (.fieldLink RX2 111 RX1 "traders" "LShadedBooks$Traders;" : Cond) ∈ TBL := tb_at 247 (by decide +kernel) (by decide +kernel)
theorem q_248 : (.fieldLink RX1 21 RX1 "orders" "LShadedBooks$Orders;" : Cond) ∈ TBL := tb_at 248 (by decide +kernel) (by decide +kernel)
theorem q_249 : (.fieldLink RX2 32 RX1 "orders" "LShadedBooks$Orders;" : Cond) ∈ TBL := tb_at 249 (by decide +kernel) (by decide +kernel)
theorem q_250 : (.fieldLink RX10 104 RX1 "orders" "LShadedBooks$Orders;" : Cond) ∈ TBL := tb_at 250 (by decide +kernel) (by decide +kernel)
theorem q_251 : (.fieldLink RX1 28 RX1 "trades" "LShadedBooks$Trades;" : Cond) ∈ TBL := tb_at 251 (by decide +kernel) (by decide +kernel)
theorem q_252 : (.fieldLink RX10 137 RX1 "trades" "LShadedBooks$Trades;" : Cond) ∈ TBL := tb_at 252 (by decide +kernel) (by decide +kernel)
theorem q_253 : (.fieldLink RX1 32 RX1 "split" "I" : Cond) ∈ TBL := tb_at 253 (by decide +kernel) (by decide +kernel)
theorem q_254 : (.fieldLink RX2 53 RX1 "split" "I" : Cond) ∈ TBL := tb_at 254 (by decide +kernel) (by decide +kernel)
theorem q_255 : (.fieldLink RX1 36 RX1 "life" "I" : Cond) ∈ TBL := tb_at 255 (by decide +kernel) (by decide +kernel)
theorem q_256 : (.fieldLink RX1 61 RX1 "round" "I" : Cond) ∈ TBL := tb_at 256 (by decide +kernel) (by decide +kernel)
theorem q_257 : (.fieldLink RX1 64 RX1 "placed" "I" : Cond) ∈ TBL := tb_at 257 (by decide +kernel) (by decide +kernel)
theorem q_258 : (.fieldLink RX1 94 RX1 "traded" "I" : Cond) ∈ TBL := tb_at 258 (by decide +kernel) (by decide +kernel)
theorem q_259 : (.fieldLink RX1 100 RX1 "surplus" "I" : Cond) ∈ TBL := tb_at 259 (by decide +kernel) (by decide +kernel)
theorem q_260 : (.fieldLink RX1 39 RX1 "lastPrice" "I" : Cond) ∈ TBL := tb_at 260 (by decide +kernel) (by decide +kernel)
theorem q_261 : (.fieldLink RX1 132 RX1 "expired" "I" : Cond) ∈ TBL := tb_at 261 (by decide +kernel) (by decide +kernel)
theorem q_284 : (.superclass RX1 "java/lang/Object" : Cond) ∈ TBL := tb_at 284 (by decide +kernel) (by decide +kernel)
theorem q_285 : (.classLink RX10 19 RX2 : Cond) ∈ TBL := tb_at 285 (by decide +kernel) (by decide +kernel)
theorem q_286 : (.instantiable RX2 12 : Cond) ∈ TBL := tb_at 286 (by decide +kernel) (by decide +kernel)
theorem q_288 : (.instanceMethod yX2_init : Cond) ∈ TBL := tb_at 288 (by decide +kernel) (by decide +kernel)
theorem q_289 : (.code yX2_init cX2_init 1 Option.none : Cond) ∈ TBL := tb_at 289 (by decide +kernel) (by decide +kernel)
theorem q_290 : (.methodLink RX2 3 ⟨"java/lang/Object", "<init>", "()V"⟩ : Cond) ∈ TBL := tb_at 290 (by decide +kernel) (by decide +kernel)
theorem q_291 : (.classLink RX2 9 RX5 : Cond) ∈ TBL := tb_at 291 (by decide +kernel) (by decide +kernel)
theorem q_292 : (.methodLink RX2 11 yX5_init : Cond) ∈ TBL := tb_at 292 (by decide +kernel) (by decide +kernel)
theorem q_293 : (.fieldLink RX2 77 RX2 "lowest" "I" : Cond) ∈ TBL := tb_at 293 (by decide +kernel) (by decide +kernel)
theorem q_294 : (.fieldLink RX2 80 RX2 "highest" "I" : Cond) ∈ TBL := tb_at 294 (by decide +kernel) (by decide +kernel)
theorem q_295 : (.fieldLink RX2 60 RX2 "price" "I" : Cond) ∈ TBL := tb_at 295 (by decide +kernel) (by decide +kernel)
theorem q_296 : (.fieldLink RX1 91 RX2 "price" "I" : Cond) ∈ TBL := tb_at 296 (by decide +kernel) (by decide +kernel)
theorem q_297 : (.fieldLink RX10 173 RX2 "price" "I" : Cond) ∈ TBL := tb_at 297 (by decide +kernel) (by decide +kernel)
theorem q_298 : (.fieldLink RX2 74 RX2 "volume" "I" : Cond) ∈ TBL := tb_at 298 (by decide +kernel) (by decide +kernel)
theorem q_299 : (.fieldLink RX1 97 RX2 "volume" "I" : Cond) ∈ TBL := tb_at 299 (by decide +kernel) (by decide +kernel)
theorem q_300 : (.fieldLink RX10 184 RX2 "volume" "I" : Cond) ∈ TBL := tb_at 300 (by decide +kernel) (by decide +kernel)
theorem q_301 : (.fieldLink RX2 71 RX2 "surplus" "I" : Cond) ∈ TBL := tb_at 301 (by decide +kernel) (by decide +kernel)
theorem q_302 : (.fieldLink RX1 103 RX2 "surplus" "I" : Cond) ∈ TBL := tb_at 302 (by decide +kernel) (by decide +kernel)
theorem q_303 : (.fieldLink RX2 14 RX2 "taken" "LShadedBooks$Row;" : Cond) ∈ TBL := tb_at 303 (by decide +kernel) (by decide +kernel)
theorem q_304 : (.fieldLink RX1 122 RX2 "taken" "LShadedBooks$Row;" : Cond) ∈ TBL := tb_at 304 (by decide +kernel) (by decide +kernel)
theorem q_305 : (.fieldLink RX10 159 RX2 "taken" "LShadedBooks$Row;" : Cond) ∈ TBL := tb_at 305 (by decide +kernel) (by decide +kernel)
theorem q_306 : (.fieldLink RX2 20 RX2 "buys" "LShadedBooks$Row;" : Cond) ∈ TBL := tb_at 306 (by decide +kernel) (by decide +kernel)
theorem q_307 : (.fieldLink RX2 23 RX2 "sells" "LShadedBooks$Row;" : Cond) ∈ TBL := tb_at 307 (by decide +kernel) (by decide +kernel)
theorem q_308 : (.fieldLink RX2 42 RX2 "buyCount" "I" : Cond) ∈ TBL := tb_at 308 (by decide +kernel) (by decide +kernel)
theorem q_309 : (.fieldLink RX2 46 RX2 "sellCount" "I" : Cond) ∈ TBL := tb_at 309 (by decide +kernel) (by decide +kernel)
theorem q_310 : (.fieldLink RX2 26 RX2 "wanted" "LShadedBooks$Row;" : Cond) ∈ TBL := tb_at 310 (by decide +kernel) (by decide +kernel)
theorem q_311 : (.fieldLink RX2 29 RX2 "offered" "LShadedBooks$Row;" : Cond) ∈ TBL := tb_at 311 (by decide +kernel) (by decide +kernel)
theorem q_336 : (.superclass RX2 "java/lang/Object" : Cond) ∈ TBL := tb_at 336 (by decide +kernel) (by decide +kernel)
theorem q_337 : (.classLink RX10 26 RX8 : Cond) ∈ TBL := tb_at 337 (by decide +kernel) (by decide +kernel)
theorem q_338 : (.instantiable RX8 3 : Cond) ∈ TBL := tb_at 338 (by decide +kernel) (by decide +kernel)
theorem q_339 : (.methodLink RX10 28 yX8_init : Cond) ∈ TBL := tb_at 339 (by decide +kernel) (by decide +kernel)
theorem q_340 : (.instanceMethod yX8_init : Cond) ∈ TBL := tb_at 340 (by decide +kernel) (by decide +kernel)
theorem q_341 : (.code yX8_init cX8_init 2 Option.none : Cond) ∈ TBL := tb_at 341 (by decide +kernel) (by decide +kernel)
theorem q_342 : (.methodLink RX8 3 ⟨"java/lang/Object", "<init>", "()V"⟩ : Cond) ∈ TBL := tb_at 342 (by decide +kernel) (by decide +kernel)
theorem q_343 : (.classLink RX8 9 RX1 : Cond) ∈ TBL := tb_at 343 (by decide +kernel) (by decide +kernel)
theorem q_346 : (.fieldLink RX8 18 RX8 "count" "I" : Cond) ∈ TBL := tb_at 346 (by decide +kernel) (by decide +kernel)
theorem q_347 : (.fieldLink RX10 214 RX8 "count" "I" : Cond) ∈ TBL := tb_at 347 (by decide +kernel) (by decide +kernel)
theorem q_348 : (.fieldLink RX8 22 RX8 "oldest" "I" : Cond) ∈ TBL := tb_at 348 (by decide +kernel) (by decide +kernel)
theorem q_349 : (.fieldLink RX8 11 RX8 "states" "[LShadedBooks$Auction;" : Cond) ∈ TBL := tb_at 349 (by decide +kernel) (by decide +kernel)
theorem q_356 : (.superclass RX8 "java/lang/Object" : Cond) ∈ TBL := tb_at 356 (by decide +kernel) (by decide +kernel)
theorem q_357 : (.classLink RX10 33 RX3 : Cond) ∈ TBL := tb_at 357 (by decide +kernel) (by decide +kernel)
theorem q_358 : (.instantiable RX3 6 : Cond) ∈ TBL := tb_at 358 (by decide +kernel) (by decide +kernel)
theorem q_360 : (.instanceMethod yX3_init : Cond) ∈ TBL := tb_at 360 (by decide +kernel) (by decide +kernel)
theorem q_361 : (.code yX3_init cX3_init 1 Option.none : Cond) ∈ TBL := tb_at 361 (by decide +kernel) (by decide +kernel)
theorem q_362 : (.methodLink RX3 3 ⟨"java/lang/Object", "<init>", "()V"⟩ : Cond) ∈ TBL := tb_at 362 (by decide +kernel) (by decide +kernel)
theorem q_363 : (.classLink RX3 9 RX5 : Cond) ∈ TBL := tb_at 363 (by decide +kernel) (by decide +kernel)
theorem q_364 : (.methodLink RX3 11 yX5_init : Cond) ∈ TBL := tb_at 364 (by decide +kernel) (by decide +kernel)
theorem q_365 : (.fieldLink RX3 31 RX3 "length" "I" : Cond) ∈ TBL := tb_at 365 (by decide +kernel) (by decide +kernel)
theorem q_366 : (.fieldLink RX10 265 RX3 "length" "I" : Cond) ∈ TBL := tb_at 366 (by decide +kernel) (by decide +kernel)
theorem q_367 : (.fieldLink RX3 54 RX3 "word" "LShadedBooks$Word;" : Cond) ∈ TBL := tb_at 367 (by decide +kernel) (by decide +kernel)
theorem q_368 : (.fieldLink RX10 274 RX3 "word" "LShadedBooks$Word;" : Cond) ∈ TBL := tb_at 368 (by decide +kernel) (by decide +kernel)
theorem q_369 : (.fieldLink RX3 14 RX3 "numbers" "LShadedBooks$Row;" : Cond) ∈ TBL := tb_at 369 (by decide +kernel) (by decide +kernel)
theorem q_370 : (.fieldLink RX10 278 RX3 "numbers" "LShadedBooks$Row;" : Cond) ∈ TBL := tb_at 370 (by decide +kernel) (by decide +kernel)
theorem q_371 : (.fieldLink RX3 20 RX3 "bytes" "LShadedBooks$Row;" : Cond) ∈ TBL := tb_at 371 (by decide +kernel) (by decide +kernel)
theorem q_372 : (.fieldLink RX3 38 RX3 "cursor" "I" : Cond) ∈ TBL := tb_at 372 (by decide +kernel) (by decide +kernel)
theorem q_373 : (.fieldLink RX3 23 RX3 "fault" "I" : Cond) ∈ TBL := tb_at 373 (by decide +kernel) (by decide +kernel)
theorem q_386 : (.superclass RX3 "java/lang/Object" : Cond) ∈ TBL := tb_at 386 (by decide +kernel) (by decide +kernel)
theorem q_387 : (.fieldLink RX10 10 RX10 "auction" "LShadedBooks$Auction;" : Cond) ∈ TBL := tb_at 387 (by decide +kernel) (by decide +kernel)
theorem q_388 : (.fieldLink RX10 16 RX10 "trial" "LShadedBooks$Auction;" : Cond) ∈ TBL := tb_at 388 (by decide +kernel) (by decide +kernel)
theorem q_389 : (.fieldLink RX10 22 RX10 "clearing" "LShadedBooks$Clearing;" : Cond) ∈ TBL := tb_at 389 (by decide +kernel) (by decide +kernel)
theorem q_390 : (.fieldLink RX10 29 RX10 "saved" "LShadedBooks$UndoStack;" : Cond) ∈ TBL := tb_at 390 (by decide +kernel) (by decide +kernel)
theorem q_391 : (.fieldLink RX10 36 RX10 "commands" "LShadedBooks$CommandText;" : Cond) ∈ TBL := tb_at 391 (by decide +kernel) (by decide +kernel)
theorem q_402 : (.superclass RX10 "java/lang/Object" : Cond) ∈ TBL := tb_at 402 (by decide +kernel) (by decide +kernel)
theorem q_403 : (.methodLink RL 161 yX10_clearCommands : Cond) ∈ TBL := tb_at 403 (by decide +kernel) (by decide +kernel)
theorem q_404 : (.instanceMethod yX10_clearCommands : Cond) ∈ TBL := tb_at 404 (by decide +kernel) (by decide +kernel)
theorem q_405 : (.selects RX10 yX10_clearCommands yX10_clearCommands : Cond) ∈ TBL := tb_at 405 (by decide +kernel) (by decide +kernel)
theorem q_406 : (.code yX10_clearCommands cX10_clearCommands 1 (Option.some FieldType.int) : Cond) ∈ TBL := tb_at 406 (by decide +kernel) (by decide +kernel)
theorem q_407 : (.methodLink RX10 196 yX3_empty : Cond) ∈ TBL := tb_at 407 (by decide +kernel) (by decide +kernel)
theorem q_408 : (.instanceMethod yX3_empty : Cond) ∈ TBL := tb_at 408 (by decide +kernel) (by decide +kernel)
theorem q_409 : (.selects RX3 yX3_empty yX3_empty : Cond) ∈ TBL := tb_at 409 (by decide +kernel) (by decide +kernel)
theorem q_410 : (.code yX3_empty cX3_empty 2 (Option.some FieldType.int) : Cond) ∈ TBL := tb_at 410 (by decide +kernel) (by decide +kernel)
theorem q_411 : (.methodLink RL 165 yX10_runCommands : Cond) ∈ TBL := tb_at 411 (by decide +kernel) (by decide +kernel)
theorem q_412 : (.instanceMethod yX10_runCommands : Cond) ∈ TBL := tb_at 412 (by decide +kernel) (by decide +kernel)
theorem q_413 : (.selects RX10 yX10_runCommands yX10_runCommands : Cond) ∈ TBL := tb_at 413 (by decide +kernel) (by decide +kernel)
theorem q_414 : (.code yX10_runCommands cX10_runCommands 3 (Option.some FieldType.int) : Cond) ∈ TBL := tb_at 414 (by decide +kernel) (by decide +kernel)
theorem q_415 : (.methodLink RX10 199 yX3_findFault : Cond) ∈ TBL := tb_at 415 (by decide +kernel) (by decide +kernel)
theorem q_416 : (.instanceMethod yX3_findFault : Cond) ∈ TBL := tb_at 416 (by decide +kernel) (by decide +kernel)
theorem q_417 : (.selects RX3 yX3_findFault yX3_findFault : Cond) ∈ TBL := tb_at 417 (by decide +kernel) (by decide +kernel)
theorem q_418 : (.code yX3_findFault cX3_findFault 2 (Option.some FieldType.int) : Cond) ∈ TBL := tb_at 418 (by decide +kernel) (by decide +kernel)
theorem q_419 : (.methodLink RX3 41 yX3_rewind : Cond) ∈ TBL := tb_at 419 (by decide +kernel) (by decide +kernel)
theorem q_420 : (.instanceMethod yX3_rewind : Cond) ∈ TBL := tb_at 420 (by decide +kernel) (by decide +kernel)
theorem q_421 : (.selects RX3 yX3_rewind yX3_rewind : Cond) ∈ TBL := tb_at 421 (by decide +kernel) (by decide +kernel)
theorem q_422 : (.code yX3_rewind cX3_rewind 1 Option.none : Cond) ∈ TBL := tb_at 422 (by decide +kernel) (by decide +kernel)
theorem q_423 : (.methodLink RX3 44 yX3_readCommand : Cond) ∈ TBL := tb_at 423 (by decide +kernel) (by decide +kernel)
theorem q_424 : (.instanceMethod yX3_readCommand : Cond) ∈ TBL := tb_at 424 (by decide +kernel) (by decide +kernel)
theorem q_425 : (.selects RX3 yX3_readCommand yX3_readCommand : Cond) ∈ TBL := tb_at 425 (by decide +kernel) (by decide +kernel)
theorem q_426 : (.code yX3_readCommand cX3_readCommand 3 (Option.some FieldType.boolean) : Cond) ∈ TBL := tb_at 426 (by decide +kernel) (by decide +kernel)
theorem q_427 : (.methodLink RX3 48 yX3_skipSpaces : Cond) ∈ TBL := tb_at 427 (by decide +kernel) (by decide +kernel)
theorem q_429 : (.instanceMethod yX3_skipSpaces : Cond) ∈ TBL := tb_at 429 (by decide +kernel) (by decide +kernel)
theorem q_430 : (.code yX3_skipSpaces cX3_skipSpaces 1 Option.none : Cond) ∈ TBL := tb_at 430 (by decide +kernel) (by decide +kernel)
theorem q_431 : (.methodLink RX3 73 yX3_byteAt : Cond) ∈ TBL := tb_at 431 (by decide +kernel) (by decide +kernel)
theorem q_433 : (.instanceMethod yX3_byteAt : Cond) ∈ TBL := tb_at 433 (by decide +kernel) (by decide +kernel)
theorem q_434 : (.code yX3_byteAt cX3_byteAt 2 (Option.some FieldType.int) : Cond) ∈ TBL := tb_at 434 (by decide +kernel) (by decide +kernel)
theorem q_435 : (.methodLink RX3 69 yX5_get : Cond) ∈ TBL := tb_at 435 (by decide +kernel) (by decide +kernel)
theorem q_436 : (.instanceMethod yX5_get : Cond) ∈ TBL := tb_at 436 (by decide +kernel) (by decide +kernel)
theorem q_437 : (.selects RX5 yX5_get yX5_get : Cond) ∈ TBL := tb_at 437 (by decide +kernel) (by decide +kernel)
theorem q_438 : (.code yX5_get cX5_get 2 (Option.some FieldType.int) : Cond) ∈ TBL := tb_at 438 (by decide +kernel) (by decide +kernel)
theorem q_439 : (.methodLink RX3 51 yX3_readWord : Cond) ∈ TBL := tb_at 439 (by decide +kernel) (by decide +kernel)
theorem q_441 : (.instanceMethod yX3_readWord : Cond) ∈ TBL := tb_at 441 (by decide +kernel) (by decide +kernel)
theorem q_442 : (.code yX3_readWord cX3_readWord 2 (Option.some FieldType.boolean) : Cond) ∈ TBL := tb_at 442 (by decide +kernel) (by decide +kernel)
theorem q_444 : (.static yX10_isWithin : Cond) ∈ TBL := tb_at 444 (by decide +kernel) (by decide +kernel)
theorem q_445 : (.code yX10_isWithin cX10_isWithin 3 (Option.some FieldType.boolean) : Cond) ∈ TBL := tb_at 445 (by decide +kernel) (by decide +kernel)
theorem q_446 : (.methodLink RX3 76 yX9_of : Cond) ∈ TBL := tb_at 446 (by decide +kernel) (by decide +kernel)
theorem q_447 : (.static yX9_of : Cond) ∈ TBL := tb_at 447 (by decide +kernel) (by decide +kernel)
theorem q_448 : (.code yX9_of cX9_of 5 (Option.some (FieldType.object RX9)) : Cond) ∈ TBL := tb_at 448 (by decide +kernel) (by decide +kernel)
theorem q_449 : (.fieldLink RX9 55 RX9 "ALL" "[LShadedBooks$Word;" : Cond) ∈ TBL := tb_at 449 (by decide +kernel) (by decide +kernel)
theorem q_451 : (.methodLink RX9 58 yX9_stands : Cond) ∈ TBL := tb_at 451 (by decide +kernel) (by decide +kernel)
theorem q_453 : (.instanceMethod yX9_stands : Cond) ∈ TBL := tb_at 453 (by decide +kernel) (by decide +kernel)
theorem q_454 : (.instantiable RX9 5 : Cond) ∈ TBL := tb_at 454 (by decide +kernel) (by decide +kernel)
theorem q_455 : (.code yX9_stands cX9_stands 5 (Option.some FieldType.boolean) : Cond) ∈ TBL := tb_at 455 (by decide +kernel) (by decide +kernel)
theorem q_456 : (.methodLink RX9 62 yJ0_length_8abf5 : Cond) ∈ TBL := tb_at 456 (by decide +kernel) (by decide +kernel)
theorem q_457 : (.instanceMethod yJ0_length_8abf5 : Cond) ∈ TBL := tb_at 457 (by decide +kernel) (by decide +kernel)
theorem q_458 : (.selects RJ0 yJ0_length_8abf5 yJ0_length_8abf5 : Cond) ∈ TBL := tb_at 458 (by decide +kernel) (by decide +kernel)
theorem q_459 : (.code yJ0_length_8abf5 cJ0_length_8abf5 1 (Option.some FieldType.int) : Cond) ∈ TBL := tb_at 459 (by decide +kernel) (by decide +kernel)
theorem q_460 : (.methodLink RJ0 335 yJ0_coder_7d493 : Cond) ∈ TBL := tb_at 460 (by decide +kernel) (by decide +kernel)
theorem q_461 : (.instanceMethod yJ0_coder_7d493 : Cond) ∈ TBL := tb_at 461 (by decide +kernel) (by decide +kernel)
theorem q_462 : (.selects RJ0 yJ0_coder_7d493 yJ0_coder_7d493 : Cond) ∈ TBL := tb_at 462 (by decide +kernel) (by decide +kernel)
theorem q_463 : (.code yJ0_coder_7d493 cJ0_coder_7d493 1 (Option.some FieldType.byte) : Cond) ∈ TBL := tb_at 463 (by decide +kernel) (by decide +kernel)
theorem q_464 : (.fieldLink RJ0 38 RJ0 "COMPACT_STRINGS" "Z" : Cond) ∈ TBL := tb_at 464 (by decide +kernel) (by decide +kernel)
theorem q_466 : (.methodLink RX9 68 yX5_get : Cond) ∈ TBL := tb_at 466 (by decide +kernel) (by decide +kernel)
theorem q_467 : (.methodLink RX9 74 yJ0_charAt_5068e : Cond) ∈ TBL := tb_at 467 (by decide +kernel) (by decide +kernel)
theorem q_468 : (.instanceMethod yJ0_charAt_5068e : Cond) ∈ TBL := tb_at 468 (by decide +kernel) (by decide +kernel)
theorem q_469 : (.selects RJ0 yJ0_charAt_5068e yJ0_charAt_5068e : Cond) ∈ TBL := tb_at 469 (by decide +kernel) (by decide +kernel)
theorem q_470 : (.code yJ0_charAt_5068e cJ0_charAt_5068e 2 (Option.some FieldType.char) : Cond) ∈ TBL := tb_at 470 (by decide +kernel) (by decide +kernel)
theorem q_471 : (.methodLink RJ0 492 yJ0_isLatin1_aae02 : Cond) ∈ TBL := tb_at 471 (by decide +kernel) (by decide +kernel)
theorem q_472 : (.instanceMethod yJ0_isLatin1_aae02 : Cond) ∈ TBL := tb_at 472 (by decide +kernel) (by decide +kernel)
theorem q_473 : (.selects RJ0 yJ0_isLatin1_aae02 yJ0_isLatin1_aae02 : Cond) ∈ TBL := tb_at 473 (by decide +kernel) (by decide +kernel)
theorem q_474 : (.code yJ0_isLatin1_aae02 cJ0_isLatin1_aae02 1 (Option.some FieldType.boolean) : Cond) ∈ TBL := tb_at 474 (by decide +kernel) (by decide +kernel)
theorem q_475 : (.methodLink RJ0 495 yJ1_charAt_3b067 : Cond) ∈ TBL := tb_at 475 (by decide +kernel) (by decide +kernel)
theorem q_476 : (.static yJ1_charAt_3b067 : Cond) ∈ TBL := tb_at 476 (by decide +kernel) (by decide +kernel)
theorem q_477 : (.code yJ1_charAt_3b067 cJ1_charAt_3b067 2 (Option.some FieldType.char) : Cond) ∈ TBL := tb_at 477 (by decide +kernel) (by decide +kernel)
theorem q_478 : (.methodLink RJ1 9 yJ0_checkIndex_df160 : Cond) ∈ TBL := tb_at 478 (by decide +kernel) (by decide +kernel)
theorem q_479 : (.static yJ0_checkIndex_df160 : Cond) ∈ TBL := tb_at 479 (by decide +kernel) (by decide +kernel)
theorem q_480 : (.code yJ0_checkIndex_df160 cJ0_checkIndex_df160 2 Option.none : Cond) ∈ TBL := tb_at 480 (by decide +kernel) (by decide +kernel)
theorem q_481 : (.fieldLink RJ0 1053 RJ3 "SIOOBE_FORMATTER" "Ljava/util/function/BiFunction;" : Cond) ∈ TBL := tb_at 481 (by decide +kernel) (by decide +kernel)
theorem q_483 : (.methodLink RJ0 1059 yJ3_checkIndex_8e157 : Cond) ∈ TBL := tb_at 483 (by decide +kernel) (by decide +kernel)
theorem q_484 : (.static yJ3_checkIndex_8e157 : Cond) ∈ TBL := tb_at 484 (by decide +kernel) (by decide +kernel)
theorem q_485 : (.code yJ3_checkIndex_8e157 cJ3_checkIndex_8e157 3 (Option.some FieldType.int) : Cond) ∈ TBL := tb_at 485 (by decide +kernel) (by decide +kernel)
theorem q_486 : (.methodLink RJ0 498 yJ2_charAt_3b067 : Cond) ∈ TBL := tb_at 486 (by decide +kernel) (by decide +kernel)
theorem q_487 : (.static yJ2_charAt_3b067 : Cond) ∈ TBL := tb_at 487 (by decide +kernel) (by decide +kernel)
theorem q_488 : (.code yJ2_charAt_3b067 cJ2_charAt_3b067 2 (Option.some FieldType.char) : Cond) ∈ TBL := tb_at 488 (by decide +kernel) (by decide +kernel)
theorem q_489 : (.methodLink RJ2 67 yJ2_checkIndex_2214a : Cond) ∈ TBL := tb_at 489 (by decide +kernel) (by decide +kernel)
theorem q_490 : (.static yJ2_checkIndex_2214a : Cond) ∈ TBL := tb_at 490 (by decide +kernel) (by decide +kernel)
theorem q_491 : (.code yJ2_checkIndex_2214a cJ2_checkIndex_2214a 2 Option.none : Cond) ∈ TBL := tb_at 491 (by decide +kernel) (by decide +kernel)
theorem q_492 : (.methodLink RJ2 48 yJ2_length_9d52b : Cond) ∈ TBL := tb_at 492 (by decide +kernel) (by decide +kernel)
theorem q_493 : (.static yJ2_length_9d52b : Cond) ∈ TBL := tb_at 493 (by decide +kernel) (by decide +kernel)
theorem q_494 : (.code yJ2_length_9d52b cJ2_length_9d52b 1 (Option.some FieldType.int) : Cond) ∈ TBL := tb_at 494 (by decide +kernel) (by decide +kernel)
theorem q_495 : (.methodLink RJ2 414 yJ0_checkIndex_df160 : Cond) ∈ TBL := tb_at 495 (by decide +kernel) (by decide +kernel)
theorem q_496 : (.methodLink RJ2 71 yJ2_getChar_3b067 : Cond) ∈ TBL := tb_at 496 (by decide +kernel) (by decide +kernel)
theorem q_497 : (.static yJ2_getChar_3b067 : Cond) ∈ TBL := tb_at 497 (by decide +kernel) (by decide +kernel)
theorem q_498 : (.code yJ2_getChar_3b067 cJ2_getChar_3b067 2 (Option.some FieldType.char) : Cond) ∈ TBL := tb_at 498 (by decide +kernel) (by decide +kernel)
theorem q_499 : (.fieldLink RJ2 44 RJ2 "$assertionsDisabled" "Z" : Cond) ∈ TBL := tb_at 499 (by decide +kernel) (by decide +kernel)
theorem q_501 : (.fieldLink RJ2 59 RJ2 "HI_BYTE_SHIFT" "I" : Cond) ∈ TBL := tb_at 501 (by decide +kernel) (by decide +kernel)
theorem q_503 : (.fieldLink RJ2 63 RJ2 "LO_BYTE_SHIFT" "I" : Cond) ∈ TBL := tb_at 503 (by decide +kernel) (by decide +kernel)
theorem q_505 : (.methodLink RX3 62 yX3_readNumber : Cond) ∈ TBL := tb_at 505 (by decide +kernel) (by decide +kernel)
theorem q_507 : (.instanceMethod yX3_readNumber : Cond) ∈ TBL := tb_at 507 (by decide +kernel) (by decide +kernel)
theorem q_508 : (.code yX3_readNumber cX3_readNumber 4 (Option.some FieldType.boolean) : Cond) ∈ TBL := tb_at 508 (by decide +kernel) (by decide +kernel)
theorem q_509 : (.methodLink RX3 66 yX3_readByte : Cond) ∈ TBL := tb_at 509 (by decide +kernel) (by decide +kernel)
theorem q_511 : (.instanceMethod yX3_readByte : Cond) ∈ TBL := tb_at 511 (by decide +kernel) (by decide +kernel)
theorem q_512 : (.code yX3_readByte cX3_readByte 2 (Option.some FieldType.boolean) : Cond) ∈ TBL := tb_at 512 (by decide +kernel) (by decide +kernel)
theorem q_513 : (.methodLink RX3 34 yX5_put : Cond) ∈ TBL := tb_at 513 (by decide +kernel) (by decide +kernel)
theorem q_514 : (.instanceMethod yX5_put : Cond) ∈ TBL := tb_at 514 (by decide +kernel) (by decide +kernel)
theorem q_515 : (.selects RX5 yX5_put yX5_put : Cond) ∈ TBL := tb_at 515 (by decide +kernel) (by decide +kernel)
theorem q_516 : (.code yX5_put cX5_put 3 Option.none : Cond) ∈ TBL := tb_at 516 (by decide +kernel) (by decide +kernel)
theorem q_517 : (.methodLink RX10 48 yX8_push : Cond) ∈ TBL := tb_at 517 (by decide +kernel) (by decide +kernel)
theorem q_518 : (.instanceMethod yX8_push : Cond) ∈ TBL := tb_at 518 (by decide +kernel) (by decide +kernel)
theorem q_519 : (.selects RX8 yX8_push yX8_push : Cond) ∈ TBL := tb_at 519 (by decide +kernel) (by decide +kernel)
theorem q_520 : (.code yX8_push cX8_push 3 Option.none : Cond) ∈ TBL := tb_at 520 (by decide +kernel) (by decide +kernel)
theorem q_521 : (.methodLink RX8 25 yJ9_floorMod_7cf53 : Cond) ∈ TBL := tb_at 521 (by decide +kernel) (by decide +kernel)
theorem q_522 : (.static yJ9_floorMod_7cf53 : Cond) ∈ TBL := tb_at 522 (by decide +kernel) (by decide +kernel)
theorem q_523 : (.code yJ9_floorMod_7cf53 cJ9_floorMod_7cf53 3 (Option.some FieldType.int) : Cond) ∈ TBL := tb_at 523 (by decide +kernel) (by decide +kernel)
theorem q_524 : (.methodLink RX8 31 yX8_placeOf : Cond) ∈ TBL := tb_at 524 (by decide +kernel) (by decide +kernel)
theorem q_526 : (.instanceMethod yX8_placeOf : Cond) ∈ TBL := tb_at 526 (by decide +kernel) (by decide +kernel)
theorem q_527 : (.code yX8_placeOf cX8_placeOf 3 (Option.some (FieldType.object RX1)) : Cond) ∈ TBL := tb_at 527 (by decide +kernel) (by decide +kernel)
theorem q_528 : (.methodLink RX8 35 yX1_copyFrom : Cond) ∈ TBL := tb_at 528 (by decide +kernel) (by decide +kernel)
theorem q_529 : (.instanceMethod yX1_copyFrom : Cond) ∈ TBL := tb_at 529 (by decide +kernel) (by decide +kernel)
theorem q_530 : (.selects RX1 yX1_copyFrom yX1_copyFrom : Cond) ∈ TBL := tb_at 530 (by decide +kernel) (by decide +kernel)
theorem q_531 : (.code yX1_copyFrom cX1_copyFrom 2 Option.none : Cond) ∈ TBL := tb_at 531 (by decide +kernel) (by decide +kernel)
theorem q_532 : (.methodLink RX1 162 yX6_copyFrom : Cond) ∈ TBL := tb_at 532 (by decide +kernel) (by decide +kernel)
theorem q_533 : (.instanceMethod yX6_copyFrom : Cond) ∈ TBL := tb_at 533 (by decide +kernel) (by decide +kernel)
theorem q_534 : (.selects RX6 yX6_copyFrom yX6_copyFrom : Cond) ∈ TBL := tb_at 534 (by decide +kernel) (by decide +kernel)
theorem q_535 : (.code yX6_copyFrom cX6_copyFrom 2 Option.none : Cond) ∈ TBL := tb_at 535 (by decide +kernel) (by decide +kernel)
theorem q_536 : (.methodLink RX6 79 yX5_copyFrom : Cond) ∈ TBL := tb_at 536 (by decide +kernel) (by decide +kernel)
theorem q_537 : (.instanceMethod yX5_copyFrom : Cond) ∈ TBL := tb_at 537 (by decide +kernel) (by decide +kernel)
theorem q_538 : (.selects RX5 yX5_copyFrom yX5_copyFrom : Cond) ∈ TBL := tb_at 538 (by decide +kernel) (by decide +kernel)
theorem q_539 : (.code yX5_copyFrom cX5_copyFrom 3 Option.none : Cond) ∈ TBL := tb_at 539 (by decide +kernel) (by decide +kernel)
theorem q_540 : (.methodLink RX5 13 yX5_get : Cond) ∈ TBL := tb_at 540 (by decide +kernel) (by decide +kernel)
theorem q_541 : (.methodLink RX1 166 yX4_copyFrom : Cond) ∈ TBL := tb_at 541 (by decide +kernel) (by decide +kernel)
theorem q_542 : (.instanceMethod yX4_copyFrom : Cond) ∈ TBL := tb_at 542 (by decide +kernel) (by decide +kernel)
theorem q_543 : (.selects RX4 yX4_copyFrom yX4_copyFrom : Cond) ∈ TBL := tb_at 543 (by decide +kernel) (by decide +kernel)
theorem q_544 : (.code yX4_copyFrom cX4_copyFrom 2 Option.none : Cond) ∈ TBL := tb_at 544 (by decide +kernel) (by decide +kernel)
theorem q_545 : (.methodLink RX4 73 yX5_copyFrom : Cond) ∈ TBL := tb_at 545 (by decide +kernel) (by decide +kernel)
theorem q_546 : (.methodLink RX1 169 yX7_copyFrom : Cond) ∈ TBL := tb_at 546 (by decide +kernel) (by decide +kernel)
theorem q_547 : (.instanceMethod yX7_copyFrom : Cond) ∈ TBL := tb_at 547 (by decide +kernel) (by decide +kernel)
theorem q_548 : (.selects RX7 yX7_copyFrom yX7_copyFrom : Cond) ∈ TBL := tb_at 548 (by decide +kernel) (by decide +kernel)
theorem q_549 : (.code yX7_copyFrom cX7_copyFrom 2 Option.none : Cond) ∈ TBL := tb_at 549 (by decide +kernel) (by decide +kernel)
theorem q_550 : (.methodLink RX7 52 yX5_copyFrom : Cond) ∈ TBL := tb_at 550 (by decide +kernel) (by decide +kernel)
theorem q_551 : (.methodLink RX10 202 yX3_rewind : Cond) ∈ TBL := tb_at 551 (by decide +kernel) (by decide +kernel)
theorem q_552 : (.methodLink RX10 205 yX3_readCommand : Cond) ∈ TBL := tb_at 552 (by decide +kernel) (by decide +kernel)
theorem q_553 : (.methodLink RX10 208 yX10_faultOfCommand : Cond) ∈ TBL := tb_at 553 (by decide +kernel) (by decide +kernel)
theorem q_555 : (.instanceMethod yX10_faultOfCommand : Cond) ∈ TBL := tb_at 555 (by decide +kernel) (by decide +kernel)
theorem q_556 : (.code yX10_faultOfCommand cX10_faultOfCommand 5 (Option.some FieldType.int) : Cond) ∈ TBL := tb_at 556 (by decide +kernel) (by decide +kernel)
theorem q_557 : (.methodLink RX10 68 yX5_get : Cond) ∈ TBL := tb_at 557 (by decide +kernel) (by decide +kernel)
theorem q_558 : (.fieldLink RX10 281 RX0 "$SwitchMap$ShadedBooks$Word" "[I" : Cond) ∈ TBL := tb_at 558 (by decide +kernel) (by decide +kernel)
theorem q_560 : (.methodLink RX10 287 ⟨"ShadedBooks$Word", "ordinal", "()I"⟩ : Cond) ∈ TBL := tb_at 560 (by decide +kernel) (by decide +kernel)
theorem q_561 : (.sameMethod RX9 RJx29ce0 "ordinal" "()I" : Cond) ∈ TBL := tb_at 561 (by decide +kernel) (by decide +kernel)
theorem q_563 : (.selects RX9 ⟨"ShadedBooks$Word", "ordinal", "()I"⟩ yJx29ce0_ordinal_8abf5 : Cond) ∈ TBL := tb_at 563 (by decide +kernel) (by decide +kernel)
theorem q_564 : (.instanceMethod yJx29ce0_ordinal_8abf5 : Cond) ∈ TBL := tb_at 564 (by decide +kernel) (by decide +kernel)
theorem q_565 : (.code yJx29ce0_ordinal_8abf5 cJx29ce0_ordinal_8abf5 1 (Option.some FieldType.int) : Cond) ∈ TBL := tb_at 565 (by decide +kernel) (by decide +kernel)
theorem q_566 : (.methodLink RX10 40 yX1_faultOfJoin : Cond) ∈ TBL := tb_at 566 (by decide +kernel) (by decide +kernel)
theorem q_567 : (.instanceMethod yX1_faultOfJoin : Cond) ∈ TBL := tb_at 567 (by decide +kernel) (by decide +kernel)
theorem q_568 : (.selects RX1 yX1_faultOfJoin yX1_faultOfJoin : Cond) ∈ TBL := tb_at 568 (by decide +kernel) (by decide +kernel)
theorem q_569 : (.code yX1_faultOfJoin cX1_faultOfJoin 3 (Option.some FieldType.int) : Cond) ∈ TBL := tb_at 569 (by decide +kernel) (by decide +kernel)
theorem q_571 : (.methodLink RX10 78 yX1_faultOfShade : Cond) ∈ TBL := tb_at 571 (by decide +kernel) (by decide +kernel)
theorem q_572 : (.instanceMethod yX1_faultOfShade : Cond) ∈ TBL := tb_at 572 (by decide +kernel) (by decide +kernel)
theorem q_573 : (.selects RX1 yX1_faultOfShade yX1_faultOfShade : Cond) ∈ TBL := tb_at 573 (by decide +kernel) (by decide +kernel)
theorem q_574 : (.code yX1_faultOfShade cX1_faultOfShade 4 (Option.some FieldType.int) : Cond) ∈ TBL := tb_at 574 (by decide +kernel) (by decide +kernel)
theorem q_575 : (.methodLink RX1 49 yX6_has : Cond) ∈ TBL := tb_at 575 (by decide +kernel) (by decide +kernel)
theorem q_576 : (.instanceMethod yX6_has : Cond) ∈ TBL := tb_at 576 (by decide +kernel) (by decide +kernel)
theorem q_577 : (.selects RX6 yX6_has yX6_has : Cond) ∈ TBL := tb_at 577 (by decide +kernel) (by decide +kernel)
theorem q_578 : (.code yX6_has cX6_has 2 (Option.some FieldType.boolean) : Cond) ∈ TBL := tb_at 578 (by decide +kernel) (by decide +kernel)
theorem q_579 : (.methodLink RX10 95 yX1_faultOfBid : Cond) ∈ TBL := tb_at 579 (by decide +kernel) (by decide +kernel)
theorem q_580 : (.instanceMethod yX1_faultOfBid : Cond) ∈ TBL := tb_at 580 (by decide +kernel) (by decide +kernel)
theorem q_581 : (.selects RX1 yX1_faultOfBid yX1_faultOfBid : Cond) ∈ TBL := tb_at 581 (by decide +kernel) (by decide +kernel)
theorem q_582 : (.code yX1_faultOfBid cX1_faultOfBid 3 (Option.some FieldType.int) : Cond) ∈ TBL := tb_at 582 (by decide +kernel) (by decide +kernel)
theorem q_583 : (.methodLink RX1 53 yX1_faultOfOrder : Cond) ∈ TBL := tb_at 583 (by decide +kernel) (by decide +kernel)
theorem q_584 : (.instanceMethod yX1_faultOfOrder : Cond) ∈ TBL := tb_at 584 (by decide +kernel) (by decide +kernel)
theorem q_585 : (.selects RX1 yX1_faultOfOrder yX1_faultOfOrder : Cond) ∈ TBL := tb_at 585 (by decide +kernel) (by decide +kernel)
theorem q_586 : (.code yX1_faultOfOrder cX1_faultOfOrder 4 (Option.some FieldType.int) : Cond) ∈ TBL := tb_at 586 (by decide +kernel) (by decide +kernel)
theorem q_587 : (.methodLink RX1 57 yX4_isFull : Cond) ∈ TBL := tb_at 587 (by decide +kernel) (by decide +kernel)
theorem q_588 : (.instanceMethod yX4_isFull : Cond) ∈ TBL := tb_at 588 (by decide +kernel) (by decide +kernel)
theorem q_589 : (.selects RX4 yX4_isFull yX4_isFull : Cond) ∈ TBL := tb_at 589 (by decide +kernel) (by decide +kernel)
theorem q_590 : (.code yX4_isFull cX4_isFull 1 (Option.some FieldType.boolean) : Cond) ∈ TBL := tb_at 590 (by decide +kernel) (by decide +kernel)
theorem q_591 : (.methodLink RX10 101 yX1_faultOfOrder : Cond) ∈ TBL := tb_at 591 (by decide +kernel) (by decide +kernel)
theorem q_592 : (.methodLink RX10 108 yX4_faultOfNumber : Cond) ∈ TBL := tb_at 592 (by decide +kernel) (by decide +kernel)
theorem q_593 : (.instanceMethod yX4_faultOfNumber : Cond) ∈ TBL := tb_at 593 (by decide +kernel) (by decide +kernel)
theorem q_594 : (.selects RX4 yX4_faultOfNumber yX4_faultOfNumber : Cond) ∈ TBL := tb_at 594 (by decide +kernel) (by decide +kernel)
theorem q_595 : (.code yX4_faultOfNumber cX4_faultOfNumber 2 (Option.some FieldType.int) : Cond) ∈ TBL := tb_at 595 (by decide +kernel) (by decide +kernel)
theorem q_596 : (.methodLink RX4 43 yX4_indexOf : Cond) ∈ TBL := tb_at 596 (by decide +kernel) (by decide +kernel)
theorem q_597 : (.instanceMethod yX4_indexOf : Cond) ∈ TBL := tb_at 597 (by decide +kernel) (by decide +kernel)
theorem q_598 : (.selects RX4 yX4_indexOf yX4_indexOf : Cond) ∈ TBL := tb_at 598 (by decide +kernel) (by decide +kernel)
theorem q_599 : (.code yX4_indexOf cX4_indexOf 3 (Option.some FieldType.int) : Cond) ∈ TBL := tb_at 599 (by decide +kernel) (by decide +kernel)
theorem q_600 : (.methodLink RX4 39 yX5_get : Cond) ∈ TBL := tb_at 600 (by decide +kernel) (by decide +kernel)
theorem q_601 : (.methodLink RX10 89 yX1_faultOfSetting : Cond) ∈ TBL := tb_at 601 (by decide +kernel) (by decide +kernel)
theorem q_602 : (.instanceMethod yX1_faultOfSetting : Cond) ∈ TBL := tb_at 602 (by decide +kernel) (by decide +kernel)
theorem q_603 : (.selects RX1 yX1_faultOfSetting yX1_faultOfSetting : Cond) ∈ TBL := tb_at 603 (by decide +kernel) (by decide +kernel)
theorem q_604 : (.code yX1_faultOfSetting cX1_faultOfSetting 3 (Option.some FieldType.int) : Cond) ∈ TBL := tb_at 604 (by decide +kernel) (by decide +kernel)
theorem q_605 : (.methodLink RX10 116 yX1_faultOfRound : Cond) ∈ TBL := tb_at 605 (by decide +kernel) (by decide +kernel)
theorem q_606 : (.instanceMethod yX1_faultOfRound : Cond) ∈ TBL := tb_at 606 (by decide +kernel) (by decide +kernel)
theorem q_607 : (.selects RX1 yX1_faultOfRound yX1_faultOfRound : Cond) ∈ TBL := tb_at 607 (by decide +kernel) (by decide +kernel)
theorem q_608 : (.code yX1_faultOfRound cX1_faultOfRound 1 (Option.some FieldType.int) : Cond) ∈ TBL := tb_at 608 (by decide +kernel) (by decide +kernel)
theorem q_609 : (.methodLink RX10 211 yX10_carryOutCommand : Cond) ∈ TBL := tb_at 609 (by decide +kernel) (by decide +kernel)
theorem q_611 : (.instanceMethod yX10_carryOutCommand : Cond) ∈ TBL := tb_at 611 (by decide +kernel) (by decide +kernel)
theorem q_612 : (.code yX10_carryOutCommand cX10_carryOutCommand 5 Option.none : Cond) ∈ TBL := tb_at 612 (by decide +kernel) (by decide +kernel)
theorem q_613 : (.methodLink RX10 56 yX6_join : Cond) ∈ TBL := tb_at 613 (by decide +kernel) (by decide +kernel)
theorem q_614 : (.instanceMethod yX6_join : Cond) ∈ TBL := tb_at 614 (by decide +kernel) (by decide +kernel)
theorem q_615 : (.selects RX6 yX6_join yX6_join : Cond) ∈ TBL := tb_at 615 (by decide +kernel) (by decide +kernel)
theorem q_616 : (.code yX6_join cX6_join 4 (Option.some FieldType.int) : Cond) ∈ TBL := tb_at 616 (by decide +kernel) (by decide +kernel)
theorem q_617 : (.methodLink RX6 46 yX5_put : Cond) ∈ TBL := tb_at 617 (by decide +kernel) (by decide +kernel)
theorem q_618 : (.methodLink RX6 50 yX6_shadeBy : Cond) ∈ TBL := tb_at 618 (by decide +kernel) (by decide +kernel)
theorem q_619 : (.instanceMethod yX6_shadeBy : Cond) ∈ TBL := tb_at 619 (by decide +kernel) (by decide +kernel)
theorem q_620 : (.selects RX6 yX6_shadeBy yX6_shadeBy : Cond) ∈ TBL := tb_at 620 (by decide +kernel) (by decide +kernel)
theorem q_621 : (.code yX6_shadeBy cX6_shadeBy 4 Option.none : Cond) ∈ TBL := tb_at 621 (by decide +kernel) (by decide +kernel)
theorem q_622 : (.methodLink RX10 82 yX6_shadeBy : Cond) ∈ TBL := tb_at 622 (by decide +kernel) (by decide +kernel)
theorem q_623 : (.methodLink RX10 86 yX6_bidOf : Cond) ∈ TBL := tb_at 623 (by decide +kernel) (by decide +kernel)
theorem q_624 : (.instanceMethod yX6_bidOf : Cond) ∈ TBL := tb_at 624 (by decide +kernel) (by decide +kernel)
theorem q_625 : (.selects RX6 yX6_bidOf yX6_bidOf : Cond) ∈ TBL := tb_at 625 (by decide +kernel) (by decide +kernel)
theorem q_626 : (.code yX6_bidOf cX6_bidOf 2 (Option.some FieldType.int) : Cond) ∈ TBL := tb_at 626 (by decide +kernel) (by decide +kernel)
theorem q_627 : (.methodLink RX6 54 yX6_shadeOf : Cond) ∈ TBL := tb_at 627 (by decide +kernel) (by decide +kernel)
theorem q_629 : (.instanceMethod yX6_shadeOf : Cond) ∈ TBL := tb_at 629 (by decide +kernel) (by decide +kernel)
theorem q_630 : (.code yX6_shadeOf cX6_shadeOf 2 (Option.some FieldType.int) : Cond) ∈ TBL := tb_at 630 (by decide +kernel) (by decide +kernel)
theorem q_631 : (.methodLink RX6 62 yX5_get : Cond) ∈ TBL := tb_at 631 (by decide +kernel) (by decide +kernel)
theorem q_632 : (.methodLink RX6 58 yX6_bidWith : Cond) ∈ TBL := tb_at 632 (by decide +kernel) (by decide +kernel)
theorem q_633 : (.instanceMethod yX6_bidWith : Cond) ∈ TBL := tb_at 633 (by decide +kernel) (by decide +kernel)
theorem q_634 : (.selects RX6 yX6_bidWith yX6_bidWith : Cond) ∈ TBL := tb_at 634 (by decide +kernel) (by decide +kernel)
theorem q_635 : (.code yX6_bidWith cX6_bidWith 3 (Option.some FieldType.int) : Cond) ∈ TBL := tb_at 635 (by decide +kernel) (by decide +kernel)
theorem q_636 : (.methodLink RX6 65 yJ9_max_7cf53 : Cond) ∈ TBL := tb_at 636 (by decide +kernel) (by decide +kernel)
theorem q_637 : (.static yJ9_max_7cf53 : Cond) ∈ TBL := tb_at 637 (by decide +kernel) (by decide +kernel)
theorem q_638 : (.code yJ9_max_7cf53 cJ9_max_7cf53 2 (Option.some FieldType.int) : Cond) ∈ TBL := tb_at 638 (by decide +kernel) (by decide +kernel)
theorem q_639 : (.methodLink RX6 70 yJ9_min_7cf53 : Cond) ∈ TBL := tb_at 639 (by decide +kernel) (by decide +kernel)
theorem q_640 : (.static yJ9_min_7cf53 : Cond) ∈ TBL := tb_at 640 (by decide +kernel) (by decide +kernel)
theorem q_641 : (.code yJ9_min_7cf53 cJ9_min_7cf53 2 (Option.some FieldType.int) : Cond) ∈ TBL := tb_at 641 (by decide +kernel) (by decide +kernel)
theorem q_642 : (.methodLink RX10 98 yX1_place : Cond) ∈ TBL := tb_at 642 (by decide +kernel) (by decide +kernel)
theorem q_643 : (.instanceMethod yX1_place : Cond) ∈ TBL := tb_at 643 (by decide +kernel) (by decide +kernel)
theorem q_644 : (.selects RX1 yX1_place yX1_place : Cond) ∈ TBL := tb_at 644 (by decide +kernel) (by decide +kernel)
theorem q_645 : (.code yX1_place cX1_place 4 (Option.some FieldType.int) : Cond) ∈ TBL := tb_at 645 (by decide +kernel) (by decide +kernel)
theorem q_646 : (.methodLink RX1 71 yX5_get : Cond) ∈ TBL := tb_at 646 (by decide +kernel) (by decide +kernel)
theorem q_647 : (.methodLink RX1 77 yX4_append : Cond) ∈ TBL := tb_at 647 (by decide +kernel) (by decide +kernel)
theorem q_648 : (.instanceMethod yX4_append : Cond) ∈ TBL := tb_at 648 (by decide +kernel) (by decide +kernel)
theorem q_649 : (.selects RX4 yX4_append yX4_append : Cond) ∈ TBL := tb_at 649 (by decide +kernel) (by decide +kernel)
theorem q_650 : (.code yX4_append cX4_append 7 Option.none : Cond) ∈ TBL := tb_at 650 (by decide +kernel) (by decide +kernel)
theorem q_651 : (.methodLink RX4 46 yX5_put : Cond) ∈ TBL := tb_at 651 (by decide +kernel) (by decide +kernel)
theorem q_652 : (.methodLink RX10 113 yX4_withdraw : Cond) ∈ TBL := tb_at 652 (by decide +kernel) (by decide +kernel)
theorem q_653 : (.instanceMethod yX4_withdraw : Cond) ∈ TBL := tb_at 653 (by decide +kernel) (by decide +kernel)
theorem q_654 : (.selects RX4 yX4_withdraw yX4_withdraw : Cond) ∈ TBL := tb_at 654 (by decide +kernel) (by decide +kernel)
theorem q_655 : (.code yX4_withdraw cX4_withdraw 4 (Option.some FieldType.int) : Cond) ∈ TBL := tb_at 655 (by decide +kernel) (by decide +kernel)
theorem q_656 : (.methodLink RX4 50 yX4_removeAt : Cond) ∈ TBL := tb_at 656 (by decide +kernel) (by decide +kernel)
theorem q_657 : (.instanceMethod yX4_removeAt : Cond) ∈ TBL := tb_at 657 (by decide +kernel) (by decide +kernel)
theorem q_658 : (.selects RX4 yX4_removeAt yX4_removeAt : Cond) ∈ TBL := tb_at 658 (by decide +kernel) (by decide +kernel)
theorem q_659 : (.code yX4_removeAt cX4_removeAt 2 Option.none : Cond) ∈ TBL := tb_at 659 (by decide +kernel) (by decide +kernel)
theorem q_660 : (.methodLink RX4 53 yX5_removeAt : Cond) ∈ TBL := tb_at 660 (by decide +kernel) (by decide +kernel)
theorem q_661 : (.instanceMethod yX5_removeAt : Cond) ∈ TBL := tb_at 661 (by decide +kernel) (by decide +kernel)
theorem q_662 : (.selects RX5 yX5_removeAt yX5_removeAt : Cond) ∈ TBL := tb_at 662 (by decide +kernel) (by decide +kernel)
theorem q_663 : (.code yX5_removeAt cX5_removeAt 3 Option.none : Cond) ∈ TBL := tb_at 663 (by decide +kernel) (by decide +kernel)
theorem q_664 : (.methodLink RX10 92 yX1_change : Cond) ∈ TBL := tb_at 664 (by decide +kernel) (by decide +kernel)
theorem q_665 : (.instanceMethod yX1_change : Cond) ∈ TBL := tb_at 665 (by decide +kernel) (by decide +kernel)
theorem q_666 : (.selects RX1 yX1_change yX1_change : Cond) ∈ TBL := tb_at 666 (by decide +kernel) (by decide +kernel)
theorem q_667 : (.code yX1_change cX1_change 4 (Option.some FieldType.int) : Cond) ∈ TBL := tb_at 667 (by decide +kernel) (by decide +kernel)
theorem q_668 : (.methodLink RX10 120 yX1_endRound : Cond) ∈ TBL := tb_at 668 (by decide +kernel) (by decide +kernel)
theorem q_669 : (.instanceMethod yX1_endRound : Cond) ∈ TBL := tb_at 669 (by decide +kernel) (by decide +kernel)
theorem q_670 : (.selects RX1 yX1_endRound yX1_endRound : Cond) ∈ TBL := tb_at 670 (by decide +kernel) (by decide +kernel)
theorem q_671 : (.code yX1_endRound cX1_endRound 4 (Option.some FieldType.int) : Cond) ∈ TBL := tb_at 671 (by decide +kernel) (by decide +kernel)
theorem q_672 : (.methodLink RX1 81 yX2_settle : Cond) ∈ TBL := tb_at 672 (by decide +kernel) (by decide +kernel)
theorem q_673 : (.instanceMethod yX2_settle : Cond) ∈ TBL := tb_at 673 (by decide +kernel) (by decide +kernel)
theorem q_674 : (.selects RX2 yX2_settle yX2_settle : Cond) ∈ TBL := tb_at 674 (by decide +kernel) (by decide +kernel)
theorem q_675 : (.code yX2_settle cX2_settle 2 Option.none : Cond) ∈ TBL := tb_at 675 (by decide +kernel) (by decide +kernel)
theorem q_676 : (.methodLink RX2 38 yX2_queueUp : Cond) ∈ TBL := tb_at 676 (by decide +kernel) (by decide +kernel)
theorem q_677 : (.static yX2_queueUp : Cond) ∈ TBL := tb_at 677 (by decide +kernel) (by decide +kernel)
theorem q_678 : (.code yX2_queueUp cX2_queueUp 6 (Option.some FieldType.int) : Cond) ∈ TBL := tb_at 678 (by decide +kernel) (by decide +kernel)
theorem q_679 : (.methodLink RX2 89 yX5_get : Cond) ∈ TBL := tb_at 679 (by decide +kernel) (by decide +kernel)
theorem q_680 : (.methodLink RX2 136 yX4_isAhead : Cond) ∈ TBL := tb_at 680 (by decide +kernel) (by decide +kernel)
theorem q_681 : (.instanceMethod yX4_isAhead : Cond) ∈ TBL := tb_at 681 (by decide +kernel) (by decide +kernel)
theorem q_682 : (.selects RX4 yX4_isAhead yX4_isAhead : Cond) ∈ TBL := tb_at 682 (by decide +kernel) (by decide +kernel)
theorem q_683 : (.code yX4_isAhead cX4_isAhead 4 (Option.some FieldType.boolean) : Cond) ∈ TBL := tb_at 683 (by decide +kernel) (by decide +kernel)
theorem q_684 : (.methodLink RX2 139 yX5_put : Cond) ∈ TBL := tb_at 684 (by decide +kernel) (by decide +kernel)
theorem q_685 : (.methodLink RX2 49 yX2_findRange : Cond) ∈ TBL := tb_at 685 (by decide +kernel) (by decide +kernel)
theorem q_687 : (.instanceMethod yX2_findRange : Cond) ∈ TBL := tb_at 687 (by decide +kernel) (by decide +kernel)
theorem q_688 : (.code yX2_findRange cX2_findRange 6 Option.none : Cond) ∈ TBL := tb_at 688 (by decide +kernel) (by decide +kernel)
theorem q_689 : (.methodLink RX2 143 yX2_tallyPrices : Cond) ∈ TBL := tb_at 689 (by decide +kernel) (by decide +kernel)
theorem q_691 : (.instanceMethod yX2_tallyPrices : Cond) ∈ TBL := tb_at 691 (by decide +kernel) (by decide +kernel)
theorem q_692 : (.code yX2_tallyPrices cX2_tallyPrices 4 (Option.some FieldType.int) : Cond) ∈ TBL := tb_at 692 (by decide +kernel) (by decide +kernel)
theorem q_693 : (.methodLink RX2 147 yX5_fillWithZeros : Cond) ∈ TBL := tb_at 693 (by decide +kernel) (by decide +kernel)
theorem q_694 : (.instanceMethod yX5_fillWithZeros : Cond) ∈ TBL := tb_at 694 (by decide +kernel) (by decide +kernel)
theorem q_695 : (.selects RX5 yX5_fillWithZeros yX5_fillWithZeros : Cond) ∈ TBL := tb_at 695 (by decide +kernel) (by decide +kernel)
theorem q_696 : (.code yX5_fillWithZeros cX5_fillWithZeros 2 Option.none : Cond) ∈ TBL := tb_at 696 (by decide +kernel) (by decide +kernel)
theorem q_697 : (.methodLink RX2 152 yX5_add : Cond) ∈ TBL := tb_at 697 (by decide +kernel) (by decide +kernel)
theorem q_698 : (.instanceMethod yX5_add : Cond) ∈ TBL := tb_at 698 (by decide +kernel) (by decide +kernel)
theorem q_699 : (.selects RX5 yX5_add yX5_add : Cond) ∈ TBL := tb_at 699 (by decide +kernel) (by decide +kernel)
theorem q_700 : (.code yX5_add cX5_add 3 Option.none : Cond) ∈ TBL := tb_at 700 (by decide +kernel) (by decide +kernel)
theorem q_701 : (.methodLink RX2 124 yJ9_min_7cf53 : Cond) ∈ TBL := tb_at 701 (by decide +kernel) (by decide +kernel)
theorem q_702 : (.methodLink RX2 56 yX2_priceWith : Cond) ∈ TBL := tb_at 702 (by decide +kernel) (by decide +kernel)
theorem q_703 : (.instanceMethod yX2_priceWith : Cond) ∈ TBL := tb_at 703 (by decide +kernel) (by decide +kernel)
theorem q_704 : (.selects RX2 yX2_priceWith yX2_priceWith : Cond) ∈ TBL := tb_at 704 (by decide +kernel) (by decide +kernel)
theorem q_705 : (.code yX2_priceWith cX2_priceWith 2 (Option.some FieldType.int) : Cond) ∈ TBL := tb_at 705 (by decide +kernel) (by decide +kernel)
theorem q_706 : (.methodLink RX2 63 yX2_take : Cond) ∈ TBL := tb_at 706 (by decide +kernel) (by decide +kernel)
theorem q_708 : (.instanceMethod yX2_take : Cond) ∈ TBL := tb_at 708 (by decide +kernel) (by decide +kernel)
theorem q_709 : (.code yX2_take cX2_take 8 Option.none : Cond) ∈ TBL := tb_at 709 (by decide +kernel) (by decide +kernel)
theorem q_710 : (.methodLink RX2 67 yX2_sumSurplus : Cond) ∈ TBL := tb_at 710 (by decide +kernel) (by decide +kernel)
theorem q_712 : (.instanceMethod yX2_sumSurplus : Cond) ∈ TBL := tb_at 712 (by decide +kernel) (by decide +kernel)
theorem q_713 : (.code yX2_sumSurplus cX2_sumSurplus 5 (Option.some FieldType.int) : Cond) ∈ TBL := tb_at 713 (by decide +kernel) (by decide +kernel)
theorem q_714 : (.methodLink RX1 87 yX2_pairOff : Cond) ∈ TBL := tb_at 714 (by decide +kernel) (by decide +kernel)
theorem q_715 : (.instanceMethod yX2_pairOff : Cond) ∈ TBL := tb_at 715 (by decide +kernel) (by decide +kernel)
theorem q_716 : (.selects RX2 yX2_pairOff yX2_pairOff : Cond) ∈ TBL := tb_at 716 (by decide +kernel) (by decide +kernel)
theorem q_717 : (.code yX2_pairOff cX2_pairOff 10 Option.none : Cond) ∈ TBL := tb_at 717 (by decide +kernel) (by decide +kernel)
theorem q_718 : (.methodLink RX2 129 yX7_append : Cond) ∈ TBL := tb_at 718 (by decide +kernel) (by decide +kernel)
theorem q_719 : (.instanceMethod yX7_append : Cond) ∈ TBL := tb_at 719 (by decide +kernel) (by decide +kernel)
theorem q_720 : (.selects RX7 yX7_append yX7_append : Cond) ∈ TBL := tb_at 720 (by decide +kernel) (by decide +kernel)
theorem q_721 : (.code yX7_append cX7_append 5 Option.none : Cond) ∈ TBL := tb_at 721 (by decide +kernel) (by decide +kernel)
theorem q_722 : (.methodLink RX7 41 yX5_get : Cond) ∈ TBL := tb_at 722 (by decide +kernel) (by decide +kernel)
theorem q_723 : (.methodLink RX7 45 yX5_put : Cond) ∈ TBL := tb_at 723 (by decide +kernel) (by decide +kernel)
theorem q_724 : (.methodLink RX1 104 yX2_takenOf : Cond) ∈ TBL := tb_at 724 (by decide +kernel) (by decide +kernel)
theorem q_725 : (.instanceMethod yX2_takenOf : Cond) ∈ TBL := tb_at 725 (by decide +kernel) (by decide +kernel)
theorem q_726 : (.selects RX2 yX2_takenOf yX2_takenOf : Cond) ∈ TBL := tb_at 726 (by decide +kernel) (by decide +kernel)
theorem q_727 : (.code yX2_takenOf cX2_takenOf 5 (Option.some FieldType.int) : Cond) ∈ TBL := tb_at 727 (by decide +kernel) (by decide +kernel)
theorem q_728 : (.methodLink RX1 108 yX6_book : Cond) ∈ TBL := tb_at 728 (by decide +kernel) (by decide +kernel)
theorem q_729 : (.instanceMethod yX6_book : Cond) ∈ TBL := tb_at 729 (by decide +kernel) (by decide +kernel)
theorem q_730 : (.selects RX6 yX6_book yX6_book : Cond) ∈ TBL := tb_at 730 (by decide +kernel) (by decide +kernel)
theorem q_731 : (.code yX6_book cX6_book 4 Option.none : Cond) ∈ TBL := tb_at 731 (by decide +kernel) (by decide +kernel)
theorem q_732 : (.methodLink RX6 73 yX5_add : Cond) ∈ TBL := tb_at 732 (by decide +kernel) (by decide +kernel)
theorem q_733 : (.methodLink RX6 76 yX6_gainPerUnit : Cond) ∈ TBL := tb_at 733 (by decide +kernel) (by decide +kernel)
theorem q_734 : (.instanceMethod yX6_gainPerUnit : Cond) ∈ TBL := tb_at 734 (by decide +kernel) (by decide +kernel)
theorem q_735 : (.selects RX6 yX6_gainPerUnit yX6_gainPerUnit : Cond) ∈ TBL := tb_at 735 (by decide +kernel) (by decide +kernel)
theorem q_736 : (.code yX6_gainPerUnit cX6_gainPerUnit 3 (Option.some FieldType.int) : Cond) ∈ TBL := tb_at 736 (by decide +kernel) (by decide +kernel)
theorem q_737 : (.methodLink RX1 112 yX4_unitsOf : Cond) ∈ TBL := tb_at 737 (by decide +kernel) (by decide +kernel)
theorem q_738 : (.instanceMethod yX4_unitsOf : Cond) ∈ TBL := tb_at 738 (by decide +kernel) (by decide +kernel)
theorem q_739 : (.selects RX4 yX4_unitsOf yX4_unitsOf : Cond) ∈ TBL := tb_at 739 (by decide +kernel) (by decide +kernel)
theorem q_740 : (.code yX4_unitsOf cX4_unitsOf 4 (Option.some FieldType.int) : Cond) ∈ TBL := tb_at 740 (by decide +kernel) (by decide +kernel)
theorem q_741 : (.methodLink RX1 115 yX6_learn : Cond) ∈ TBL := tb_at 741 (by decide +kernel) (by decide +kernel)
theorem q_742 : (.instanceMethod yX6_learn : Cond) ∈ TBL := tb_at 742 (by decide +kernel) (by decide +kernel)
theorem q_743 : (.selects RX6 yX6_learn yX6_learn : Cond) ∈ TBL := tb_at 743 (by decide +kernel) (by decide +kernel)
theorem q_744 : (.code yX6_learn cX6_learn 4 Option.none : Cond) ∈ TBL := tb_at 744 (by decide +kernel) (by decide +kernel)
theorem q_745 : (.methodLink RX1 125 yX5_add : Cond) ∈ TBL := tb_at 745 (by decide +kernel) (by decide +kernel)
theorem q_746 : (.methodLink RX1 129 yX4_removeEmpty : Cond) ∈ TBL := tb_at 746 (by decide +kernel) (by decide +kernel)
theorem q_747 : (.instanceMethod yX4_removeEmpty : Cond) ∈ TBL := tb_at 747 (by decide +kernel) (by decide +kernel)
theorem q_748 : (.selects RX4 yX4_removeEmpty yX4_removeEmpty : Cond) ∈ TBL := tb_at 748 (by decide +kernel) (by decide +kernel)
theorem q_749 : (.code yX4_removeEmpty cX4_removeEmpty 2 Option.none : Cond) ∈ TBL := tb_at 749 (by decide +kernel) (by decide +kernel)
theorem q_750 : (.methodLink RX1 135 yX4_removeUpTo : Cond) ∈ TBL := tb_at 750 (by decide +kernel) (by decide +kernel)
theorem q_751 : (.instanceMethod yX4_removeUpTo : Cond) ∈ TBL := tb_at 751 (by decide +kernel) (by decide +kernel)
theorem q_752 : (.selects RX4 yX4_removeUpTo yX4_removeUpTo : Cond) ∈ TBL := tb_at 752 (by decide +kernel) (by decide +kernel)
theorem q_753 : (.code yX4_removeUpTo cX4_removeUpTo 4 (Option.some FieldType.int) : Cond) ∈ TBL := tb_at 753 (by decide +kernel) (by decide +kernel)
theorem q_754 : (.methodLink RL 172 yX10_digest : Cond) ∈ TBL := tb_at 754 (by decide +kernel) (by decide +kernel)
theorem q_755 : (.instanceMethod yX10_digest : Cond) ∈ TBL := tb_at 755 (by decide +kernel) (by decide +kernel)
theorem q_756 : (.selects RX10 yX10_digest yX10_digest : Cond) ∈ TBL := tb_at 756 (by decide +kernel) (by decide +kernel)
theorem q_757 : (.code yX10_digest cX10_digest 4 (Option.some FieldType.long) : Cond) ∈ TBL := tb_at 757 (by decide +kernel) (by decide +kernel)
theorem q_758 : (.constantLong RX10 220 43616 : Cond) ∈ TBL := tb_at 758 (by decide +kernel) (by decide +kernel)
theorem q_759 : (.methodLink RX10 222 yX10_mix : Cond) ∈ TBL := tb_at 759 (by decide +kernel) (by decide +kernel)
theorem q_760 : (.static yX10_mix : Cond) ∈ TBL := tb_at 760 (by decide +kernel) (by decide +kernel)
theorem q_761 : (.code yX10_mix cX10_mix 4 (Option.some FieldType.long) : Cond) ∈ TBL := tb_at 761 (by decide +kernel) (by decide +kernel)
theorem q_762 : (.constantLong RX10 236 31 : Cond) ∈ TBL := tb_at 762 (by decide +kernel) (by decide +kernel)
theorem q_763 : (.methodLink RX10 156 yX10_wholeValue : Cond) ∈ TBL := tb_at 763 (by decide +kernel) (by decide +kernel)
theorem q_765 : (.instanceMethod yX10_wholeValue : Cond) ∈ TBL := tb_at 765 (by decide +kernel) (by decide +kernel)
theorem q_766 : (.code yX10_wholeValue cX10_wholeValue 2 (Option.some FieldType.int) : Cond) ∈ TBL := tb_at 766 (by decide +kernel) (by decide +kernel)
theorem q_767 : (.methodLink RX10 268 yX1_wholeValue : Cond) ∈ TBL := tb_at 767 (by decide +kernel) (by decide +kernel)
theorem q_768 : (.instanceMethod yX1_wholeValue : Cond) ∈ TBL := tb_at 768 (by decide +kernel) (by decide +kernel)
theorem q_769 : (.selects RX1 yX1_wholeValue yX1_wholeValue : Cond) ∈ TBL := tb_at 769 (by decide +kernel) (by decide +kernel)
theorem q_770 : (.code yX1_wholeValue cX1_wholeValue 2 (Option.some FieldType.int) : Cond) ∈ TBL := tb_at 770 (by decide +kernel) (by decide +kernel)
theorem q_771 : (.methodLink RX10 150 yX2_settle : Cond) ∈ TBL := tb_at 771 (by decide +kernel) (by decide +kernel)
theorem q_772 : (.methodLink RX10 153 yX2_valueOf : Cond) ∈ TBL := tb_at 772 (by decide +kernel) (by decide +kernel)
theorem q_773 : (.instanceMethod yX2_valueOf : Cond) ∈ TBL := tb_at 773 (by decide +kernel) (by decide +kernel)
theorem q_774 : (.selects RX2 yX2_valueOf yX2_valueOf : Cond) ∈ TBL := tb_at 774 (by decide +kernel) (by decide +kernel)
theorem q_775 : (.code yX2_valueOf cX2_valueOf 3 (Option.some FieldType.int) : Cond) ∈ TBL := tb_at 775 (by decide +kernel) (by decide +kernel)
theorem q_776 : (.methodLink RX2 83 yX2_findGreatest : Cond) ∈ TBL := tb_at 776 (by decide +kernel) (by decide +kernel)
theorem q_778 : (.instanceMethod yX2_findGreatest : Cond) ∈ TBL := tb_at 778 (by decide +kernel) (by decide +kernel)
theorem q_779 : (.code yX2_findGreatest cX2_findGreatest 6 (Option.some FieldType.int) : Cond) ∈ TBL := tb_at 779 (by decide +kernel) (by decide +kernel)
theorem q_780 : (.methodLink RX2 158 yX2_tallyValues : Cond) ∈ TBL := tb_at 780 (by decide +kernel) (by decide +kernel)
theorem q_782 : (.instanceMethod yX2_tallyValues : Cond) ∈ TBL := tb_at 782 (by decide +kernel) (by decide +kernel)
theorem q_783 : (.code yX2_tallyValues cX2_tallyValues 5 Option.none : Cond) ∈ TBL := tb_at 783 (by decide +kernel) (by decide +kernel)
theorem q_784 : (.methodLink RX2 86 yX2_hundredthsOf : Cond) ∈ TBL := tb_at 784 (by decide +kernel) (by decide +kernel)
theorem q_786 : (.instanceMethod yX2_hundredthsOf : Cond) ∈ TBL := tb_at 786 (by decide +kernel) (by decide +kernel)
theorem q_787 : (.code yX2_hundredthsOf cX2_hundredthsOf 2 (Option.some FieldType.int) : Cond) ∈ TBL := tb_at 787 (by decide +kernel) (by decide +kernel)
theorem q_788 : (.methodLink RX10 226 yX10_mixTraders : Cond) ∈ TBL := tb_at 788 (by decide +kernel) (by decide +kernel)
theorem q_790 : (.instanceMethod yX10_mixTraders : Cond) ∈ TBL := tb_at 790 (by decide +kernel) (by decide +kernel)
theorem q_791 : (.code yX10_mixTraders cX10_mixTraders 7 (Option.some FieldType.long) : Cond) ∈ TBL := tb_at 791 (by decide +kernel) (by decide +kernel)
theorem q_792 : (.methodLink RX10 128 yX1_traderValue : Cond) ∈ TBL := tb_at 792 (by decide +kernel) (by decide +kernel)
theorem q_793 : (.instanceMethod yX1_traderValue : Cond) ∈ TBL := tb_at 793 (by decide +kernel) (by decide +kernel)
theorem q_794 : (.selects RX1 yX1_traderValue yX1_traderValue : Cond) ∈ TBL := tb_at 794 (by decide +kernel) (by decide +kernel)
theorem q_795 : (.code yX1_traderValue cX1_traderValue 3 (Option.some FieldType.int) : Cond) ∈ TBL := tb_at 795 (by decide +kernel) (by decide +kernel)
theorem q_796 : (.methodLink RX1 147 yX6_bidOf : Cond) ∈ TBL := tb_at 796 (by decide +kernel) (by decide +kernel)
theorem q_797 : (.methodLink RX1 150 yX4_countOf : Cond) ∈ TBL := tb_at 797 (by decide +kernel) (by decide +kernel)
theorem q_798 : (.instanceMethod yX4_countOf : Cond) ∈ TBL := tb_at 798 (by decide +kernel) (by decide +kernel)
theorem q_799 : (.selects RX4 yX4_countOf yX4_countOf : Cond) ∈ TBL := tb_at 799 (by decide +kernel) (by decide +kernel)
theorem q_800 : (.code yX4_countOf cX4_countOf 4 (Option.some FieldType.int) : Cond) ∈ TBL := tb_at 800 (by decide +kernel) (by decide +kernel)
theorem q_801 : (.methodLink RX10 230 yX10_mixOrders : Cond) ∈ TBL := tb_at 801 (by decide +kernel) (by decide +kernel)
theorem q_803 : (.instanceMethod yX10_mixOrders : Cond) ∈ TBL := tb_at 803 (by decide +kernel) (by decide +kernel)
theorem q_804 : (.code yX10_mixOrders cX10_mixOrders 7 (Option.some FieldType.long) : Cond) ∈ TBL := tb_at 804 (by decide +kernel) (by decide +kernel)
theorem q_805 : (.methodLink RX10 134 yX4_valueOf : Cond) ∈ TBL := tb_at 805 (by decide +kernel) (by decide +kernel)
theorem q_806 : (.instanceMethod yX4_valueOf : Cond) ∈ TBL := tb_at 806 (by decide +kernel) (by decide +kernel)
theorem q_807 : (.selects RX4 yX4_valueOf yX4_valueOf : Cond) ∈ TBL := tb_at 807 (by decide +kernel) (by decide +kernel)
theorem q_808 : (.code yX4_valueOf cX4_valueOf 3 (Option.some FieldType.int) : Cond) ∈ TBL := tb_at 808 (by decide +kernel) (by decide +kernel)
theorem q_809 : (.methodLink RX4 70 yX4_placeOf : Cond) ∈ TBL := tb_at 809 (by decide +kernel) (by decide +kernel)
theorem q_810 : (.instanceMethod yX4_placeOf : Cond) ∈ TBL := tb_at 810 (by decide +kernel) (by decide +kernel)
theorem q_811 : (.selects RX4 yX4_placeOf yX4_placeOf : Cond) ∈ TBL := tb_at 811 (by decide +kernel) (by decide +kernel)
theorem q_812 : (.code yX4_placeOf cX4_placeOf 4 (Option.some FieldType.int) : Cond) ∈ TBL := tb_at 812 (by decide +kernel) (by decide +kernel)
theorem q_813 : (.methodLink RX4 54 yX4_isAhead : Cond) ∈ TBL := tb_at 813 (by decide +kernel) (by decide +kernel)
theorem q_814 : (.methodLink RX10 233 yX10_mixTrades : Cond) ∈ TBL := tb_at 814 (by decide +kernel) (by decide +kernel)
theorem q_816 : (.instanceMethod yX10_mixTrades : Cond) ∈ TBL := tb_at 816 (by decide +kernel) (by decide +kernel)
theorem q_817 : (.code yX10_mixTrades cX10_mixTrades 7 (Option.some FieldType.long) : Cond) ∈ TBL := tb_at 817 (by decide +kernel) (by decide +kernel)
theorem q_818 : (.methodLink RX10 141 yX7_valueOf : Cond) ∈ TBL := tb_at 818 (by decide +kernel) (by decide +kernel)
theorem q_819 : (.instanceMethod yX7_valueOf : Cond) ∈ TBL := tb_at 819 (by decide +kernel) (by decide +kernel)
theorem q_820 : (.selects RX7 yX7_valueOf yX7_valueOf : Cond) ∈ TBL := tb_at 820 (by decide +kernel) (by decide +kernel)
theorem q_821 : (.code yX7_valueOf cX7_valueOf 3 (Option.some FieldType.int) : Cond) ∈ TBL := tb_at 821 (by decide +kernel) (by decide +kernel)
theorem q_822 : (.methodLink RL 89 yL_addTrader : Cond) ∈ TBL := tb_at 822 (by decide +kernel) (by decide +kernel)
theorem q_823 : (.static yL_addTrader : Cond) ∈ TBL := tb_at 823 (by decide +kernel) (by decide +kernel)
theorem q_824 : (.codeWith yL_addTrader cL_addTrader 5 (Option.some FieldType.int) [(0, 10, 13, 13), (0, 10, 17, 15)] : Cond) ∈ TBL := tb_at 824 (by decide +kernel) (by decide +kernel)
theorem q_825 : (.classLink RL 13 "java/lang/IllegalArgumentException" : Cond) ∈ TBL := tb_at 825 (by decide +kernel) (by decide +kernel)
theorem q_826 : (.classLink RL 15 "java/lang/IllegalStateException" : Cond) ∈ TBL := tb_at 826 (by decide +kernel) (by decide +kernel)
theorem q_827 : (.methodLink RL 7 yX10_addTrader : Cond) ∈ TBL := tb_at 827 (by decide +kernel) (by decide +kernel)
theorem q_828 : (.instanceMethod yX10_addTrader : Cond) ∈ TBL := tb_at 828 (by decide +kernel) (by decide +kernel)
theorem q_829 : (.selects RX10 yX10_addTrader yX10_addTrader : Cond) ∈ TBL := tb_at 829 (by decide +kernel) (by decide +kernel)
theorem q_830 : (.code yX10_addTrader cX10_addTrader 3 (Option.some FieldType.int) : Cond) ∈ TBL := tb_at 830 (by decide +kernel) (by decide +kernel)
theorem q_831 : (.methodLink RX10 44 yX10_refuse : Cond) ∈ TBL := tb_at 831 (by decide +kernel) (by decide +kernel)
theorem q_832 : (.static yX10_refuse : Cond) ∈ TBL := tb_at 832 (by decide +kernel) (by decide +kernel)
theorem q_833 : (.code yX10_refuse cX10_refuse 1 Option.none : Cond) ∈ TBL := tb_at 833 (by decide +kernel) (by decide +kernel)
theorem q_834 : (.classLink RX10 244 "java/lang/IndexOutOfBoundsException" : Cond) ∈ TBL := tb_at 834 (by decide +kernel) (by decide +kernel)
theorem q_835 : (.instantiable "java/lang/IndexOutOfBoundsException" 6 : Cond) ∈ TBL := tb_at 835 (by decide +kernel) (by decide +kernel)
theorem q_843 : (.selects "java/lang/IndexOutOfBoundsException" ⟨"java/lang/Throwable", "fillInStackTrace", "(I)Ljava/lang/Throwable;"⟩ ⟨"java/lang/Throwable", "fillInStackTrace", "(I)Ljava/lang/Throwable;"⟩ : Cond) ∈ TBL := tb_at 843 (by decide +kernel) (by decide +kernel)
theorem q_844 : (.selects "java/lang/IndexOutOfBoundsException" ⟨"java/lang/Throwable", "fillInStackTrace", "()Ljava/lang/Throwable;"⟩ ⟨"java/lang/Throwable", "fillInStackTrace", "()Ljava/lang/Throwable;"⟩ : Cond) ∈ TBL := tb_at 844 (by decide +kernel) (by decide +kernel)
theorem q_855 : (.fieldLink "java/lang/Throwable" 198 "java/lang/Throwable" "backtrace" "Ljava/lang/Object;" : Cond) ∈ TBL := tb_at 855 (by decide +kernel) (by decide +kernel)
theorem q_856 : (.superclass "java/lang/Throwable" "java/lang/Object" : Cond) ∈ TBL := tb_at 856 (by decide +kernel) (by decide +kernel)
theorem q_857 : (.instanceMethod ⟨"java/lang/Throwable", "<init>", "()V"⟩ : Cond) ∈ TBL := tb_at 857 (by decide +kernel) (by decide +kernel)
theorem q_858 : (.code ⟨"java/lang/Throwable", "<init>", "()V"⟩ prog_24_method_1_code 1 Option.none : Cond) ∈ TBL := tb_at 858 (by decide +kernel) (by decide +kernel)
theorem q_859 : (.methodLink "java/lang/Throwable" 1 ⟨"java/lang/Object", "<init>", "()V"⟩ : Cond) ∈ TBL := tb_at 859 (by decide +kernel) (by decide +kernel)
theorem q_860 : (.fieldLink "java/lang/Throwable" 13 "java/lang/Throwable" "UNASSIGNED_STACK" "[Ljava/lang/StackTraceElement;" : Cond) ∈ TBL := tb_at 860 (by decide +kernel) (by decide +kernel)
theorem q_862 : (.fieldLink "java/lang/Throwable" 20 "java/lang/Throwable" "SUPPRESSED_SENTINEL" "Ljava/util/List;" : Cond) ∈ TBL := tb_at 862 (by decide +kernel) (by decide +kernel)
theorem q_864 : (.methodLink "java/lang/Throwable" 27 ⟨"java/lang/Throwable", "fillInStackTrace", "()Ljava/lang/Throwable;"⟩ : Cond) ∈ TBL := tb_at 864 (by decide +kernel) (by decide +kernel)
theorem q_865 : (.instanceMethod ⟨"java/lang/Throwable", "fillInStackTrace", "()Ljava/lang/Throwable;"⟩ : Cond) ∈ TBL := tb_at 865 (by decide +kernel) (by decide +kernel)
theorem q_866 : (.sameMethod "java/lang/Throwable" "java/lang/Throwable" "fillInStackTrace" "()Ljava/lang/Throwable;" : Cond) ∈ TBL := tb_at 866 (by decide +kernel) (by decide +kernel)
theorem q_867 : (.selects "java/lang/IllegalArgumentException" ⟨"java/lang/Throwable", "fillInStackTrace", "()Ljava/lang/Throwable;"⟩ ⟨"java/lang/Throwable", "fillInStackTrace", "()Ljava/lang/Throwable;"⟩ : Cond) ∈ TBL := tb_at 867 (by decide +kernel) (by decide +kernel)
theorem q_868 : (.selects "java/lang/IllegalStateException" ⟨"java/lang/Throwable", "fillInStackTrace", "()Ljava/lang/Throwable;"⟩ ⟨"java/lang/Throwable", "fillInStackTrace", "()Ljava/lang/Throwable;"⟩ : Cond) ∈ TBL := tb_at 868 (by decide +kernel) (by decide +kernel)
theorem q_870 : (.methodLink "java/lang/Throwable" 202 ⟨"java/lang/Throwable", "fillInStackTrace", "(I)Ljava/lang/Throwable;"⟩ : Cond) ∈ TBL := tb_at 870 (by decide +kernel) (by decide +kernel)
theorem q_872 : (.instanceMethod ⟨"java/lang/Throwable", "fillInStackTrace", "(I)Ljava/lang/Throwable;"⟩ : Cond) ∈ TBL := tb_at 872 (by decide +kernel) (by decide +kernel)
theorem q_873 : (.instantiable "java/lang/Throwable" 6 : Cond) ∈ TBL := tb_at 873 (by decide +kernel) (by decide +kernel)
theorem q_876 : (.methodLink RX10 248 ⟨"java/lang/IndexOutOfBoundsException", "<init>", "(Ljava/lang/String;)V"⟩ : Cond) ∈ TBL := tb_at 876 (by decide +kernel) (by decide +kernel)
theorem q_877 : (.instanceMethod ⟨"java/lang/IndexOutOfBoundsException", "<init>", "(Ljava/lang/String;)V"⟩ : Cond) ∈ TBL := tb_at 877 (by decide +kernel) (by decide +kernel)
theorem q_878 : (.code ⟨"java/lang/IndexOutOfBoundsException", "<init>", "(Ljava/lang/String;)V"⟩ prog_18_method_2_code 2 Option.none : Cond) ∈ TBL := tb_at 878 (by decide +kernel) (by decide +kernel)
theorem q_879 : (.methodLink "java/lang/IndexOutOfBoundsException" 7 ⟨"java/lang/RuntimeException", "<init>", "(Ljava/lang/String;)V"⟩ : Cond) ∈ TBL := tb_at 879 (by decide +kernel) (by decide +kernel)
theorem q_880 : (.instanceMethod ⟨"java/lang/RuntimeException", "<init>", "(Ljava/lang/String;)V"⟩ : Cond) ∈ TBL := tb_at 880 (by decide +kernel) (by decide +kernel)
theorem q_881 : (.code ⟨"java/lang/RuntimeException", "<init>", "(Ljava/lang/String;)V"⟩ prog_20_method_2_code 2 Option.none : Cond) ∈ TBL := tb_at 881 (by decide +kernel) (by decide +kernel)
theorem q_882 : (.methodLink "java/lang/RuntimeException" 7 ⟨"java/lang/Exception", "<init>", "(Ljava/lang/String;)V"⟩ : Cond) ∈ TBL := tb_at 882 (by decide +kernel) (by decide +kernel)
theorem q_883 : (.instanceMethod ⟨"java/lang/Exception", "<init>", "(Ljava/lang/String;)V"⟩ : Cond) ∈ TBL := tb_at 883 (by decide +kernel) (by decide +kernel)
theorem q_884 : (.code ⟨"java/lang/Exception", "<init>", "(Ljava/lang/String;)V"⟩ prog_15_method_2_code 2 Option.none : Cond) ∈ TBL := tb_at 884 (by decide +kernel) (by decide +kernel)
theorem q_885 : (.methodLink "java/lang/Exception" 7 ⟨"java/lang/Throwable", "<init>", "(Ljava/lang/String;)V"⟩ : Cond) ∈ TBL := tb_at 885 (by decide +kernel) (by decide +kernel)
theorem q_886 : (.instanceMethod ⟨"java/lang/Throwable", "<init>", "(Ljava/lang/String;)V"⟩ : Cond) ∈ TBL := tb_at 886 (by decide +kernel) (by decide +kernel)
theorem q_887 : (.code ⟨"java/lang/Throwable", "<init>", "(Ljava/lang/String;)V"⟩ prog_24_method_2_code 2 Option.none : Cond) ∈ TBL := tb_at 887 (by decide +kernel) (by decide +kernel)
theorem q_889 : (.fieldLink "java/lang/Throwable" 31 "java/lang/Throwable" "detailMessage" "Ljava/lang/String;" : Cond) ∈ TBL := tb_at 889 (by decide +kernel) (by decide +kernel)
theorem q_890 : (.fieldLink "java/lang/Throwable" 7 "java/lang/Throwable" "cause" "Ljava/lang/Throwable;" : Cond) ∈ TBL := tb_at 890 (by decide +kernel) (by decide +kernel)
theorem q_891 : (.fieldLink "java/lang/Throwable" 17 "java/lang/Throwable" "stackTrace" "[Ljava/lang/StackTraceElement;" : Cond) ∈ TBL := tb_at 891 (by decide +kernel) (by decide +kernel)
theorem q_892 : (.fieldLink "java/lang/Throwable" 24 "java/lang/Throwable" "suppressedExceptions" "Ljava/util/List;" : Cond) ∈ TBL := tb_at 892 (by decide +kernel) (by decide +kernel)
theorem q_900 : (.superclass "java/lang/IndexOutOfBoundsException" "java/lang/RuntimeException" : Cond) ∈ TBL := tb_at 900 (by decide +kernel) (by decide +kernel)
theorem q_901 : (.arrayClass FieldType.byte : Cond) ∈ TBL := tb_at 901 (by decide +kernel) (by decide +kernel)
theorem q_902 : (.classLink RX10 251 "java/lang/IllegalArgumentException" : Cond) ∈ TBL := tb_at 902 (by decide +kernel) (by decide +kernel)
theorem q_903 : (.instantiable "java/lang/IllegalArgumentException" 6 : Cond) ∈ TBL := tb_at 903 (by decide +kernel) (by decide +kernel)
theorem q_905 : (.selects "java/lang/IllegalArgumentException" ⟨"java/lang/Throwable", "fillInStackTrace", "(I)Ljava/lang/Throwable;"⟩ ⟨"java/lang/Throwable", "fillInStackTrace", "(I)Ljava/lang/Throwable;"⟩ : Cond) ∈ TBL := tb_at 905 (by decide +kernel) (by decide +kernel)
theorem q_912 : (.methodLink RX10 255 ⟨"java/lang/IllegalArgumentException", "<init>", "(Ljava/lang/String;)V"⟩ : Cond) ∈ TBL := tb_at 912 (by decide +kernel) (by decide +kernel)
theorem q_913 : (.instanceMethod ⟨"java/lang/IllegalArgumentException", "<init>", "(Ljava/lang/String;)V"⟩ : Cond) ∈ TBL := tb_at 913 (by decide +kernel) (by decide +kernel)
theorem q_914 : (.code ⟨"java/lang/IllegalArgumentException", "<init>", "(Ljava/lang/String;)V"⟩ prog_16_method_2_code 2 Option.none : Cond) ∈ TBL := tb_at 914 (by decide +kernel) (by decide +kernel)
theorem q_915 : (.methodLink "java/lang/IllegalArgumentException" 7 ⟨"java/lang/RuntimeException", "<init>", "(Ljava/lang/String;)V"⟩ : Cond) ∈ TBL := tb_at 915 (by decide +kernel) (by decide +kernel)
theorem q_917 : (.superclass "java/lang/IllegalArgumentException" "java/lang/RuntimeException" : Cond) ∈ TBL := tb_at 917 (by decide +kernel) (by decide +kernel)
theorem q_918 : (.classLink RX10 256 "java/lang/IllegalStateException" : Cond) ∈ TBL := tb_at 918 (by decide +kernel) (by decide +kernel)
theorem q_919 : (.instantiable "java/lang/IllegalStateException" 6 : Cond) ∈ TBL := tb_at 919 (by decide +kernel) (by decide +kernel)
theorem q_921 : (.selects "java/lang/IllegalStateException" ⟨"java/lang/Throwable", "fillInStackTrace", "(I)Ljava/lang/Throwable;"⟩ ⟨"java/lang/Throwable", "fillInStackTrace", "(I)Ljava/lang/Throwable;"⟩ : Cond) ∈ TBL := tb_at 921 (by decide +kernel) (by decide +kernel)
theorem q_928 : (.methodLink RX10 260 ⟨"java/lang/IllegalStateException", "<init>", "(Ljava/lang/String;)V"⟩ : Cond) ∈ TBL := tb_at 928 (by decide +kernel) (by decide +kernel)
theorem q_929 : (.instanceMethod ⟨"java/lang/IllegalStateException", "<init>", "(Ljava/lang/String;)V"⟩ : Cond) ∈ TBL := tb_at 929 (by decide +kernel) (by decide +kernel)
theorem q_930 : (.code ⟨"java/lang/IllegalStateException", "<init>", "(Ljava/lang/String;)V"⟩ prog_17_method_2_code 2 Option.none : Cond) ∈ TBL := tb_at 930 (by decide +kernel) (by decide +kernel)
theorem q_931 : (.methodLink "java/lang/IllegalStateException" 7 ⟨"java/lang/RuntimeException", "<init>", "(Ljava/lang/String;)V"⟩ : Cond) ∈ TBL := tb_at 931 (by decide +kernel) (by decide +kernel)
theorem q_933 : (.superclass "java/lang/IllegalStateException" "java/lang/RuntimeException" : Cond) ∈ TBL := tb_at 933 (by decide +kernel) (by decide +kernel)
theorem q_934 : (.methodLink RL 98 yL_setValue : Cond) ∈ TBL := tb_at 934 (by decide +kernel) (by decide +kernel)
theorem q_935 : (.static yL_setValue : Cond) ∈ TBL := tb_at 935 (by decide +kernel) (by decide +kernel)
theorem q_936 : (.codeWith yL_setValue cL_setValue 5 (Option.some FieldType.int) [(0, 10, 13, 20), (0, 10, 17, 13)] : Cond) ∈ TBL := tb_at 936 (by decide +kernel) (by decide +kernel)
theorem q_937 : (.classLink RL 20 "java/lang/IndexOutOfBoundsException" : Cond) ∈ TBL := tb_at 937 (by decide +kernel) (by decide +kernel)
theorem q_938 : (.methodLink RL 17 yX10_setValue : Cond) ∈ TBL := tb_at 938 (by decide +kernel) (by decide +kernel)
theorem q_939 : (.instanceMethod yX10_setValue : Cond) ∈ TBL := tb_at 939 (by decide +kernel) (by decide +kernel)
theorem q_940 : (.selects RX10 yX10_setValue yX10_setValue : Cond) ∈ TBL := tb_at 940 (by decide +kernel) (by decide +kernel)
theorem q_941 : (.code yX10_setValue cX10_setValue 4 (Option.some FieldType.int) : Cond) ∈ TBL := tb_at 941 (by decide +kernel) (by decide +kernel)
theorem q_942 : (.methodLink RX10 61 yX1_faultOfValue : Cond) ∈ TBL := tb_at 942 (by decide +kernel) (by decide +kernel)
theorem q_943 : (.instanceMethod yX1_faultOfValue : Cond) ∈ TBL := tb_at 943 (by decide +kernel) (by decide +kernel)
theorem q_944 : (.selects RX1 yX1_faultOfValue yX1_faultOfValue : Cond) ∈ TBL := tb_at 944 (by decide +kernel) (by decide +kernel)
theorem q_945 : (.code yX1_faultOfValue cX1_faultOfValue 3 (Option.some FieldType.int) : Cond) ∈ TBL := tb_at 945 (by decide +kernel) (by decide +kernel)
theorem q_946 : (.methodLink RX10 74 yX5_put : Cond) ∈ TBL := tb_at 946 (by decide +kernel) (by decide +kernel)
theorem q_947 : (.methodLink RL 101 yL_setShade : Cond) ∈ TBL := tb_at 947 (by decide +kernel) (by decide +kernel)
theorem q_948 : (.static yL_setShade : Cond) ∈ TBL := tb_at 948 (by decide +kernel) (by decide +kernel)
theorem q_949 : (.codeWith yL_setShade cL_setShade 6 (Option.some FieldType.int) [(0, 12, 15, 20), (0, 12, 19, 13)] : Cond) ∈ TBL := tb_at 949 (by decide +kernel) (by decide +kernel)
theorem q_950 : (.methodLink RL 22 yX10_setShade : Cond) ∈ TBL := tb_at 950 (by decide +kernel) (by decide +kernel)
theorem q_951 : (.instanceMethod yX10_setShade : Cond) ∈ TBL := tb_at 951 (by decide +kernel) (by decide +kernel)
theorem q_952 : (.selects RX10 yX10_setShade yX10_setShade : Cond) ∈ TBL := tb_at 952 (by decide +kernel) (by decide +kernel)
theorem q_953 : (.code yX10_setShade cX10_setShade 4 (Option.some FieldType.int) : Cond) ∈ TBL := tb_at 953 (by decide +kernel) (by decide +kernel)
theorem q_954 : (.methodLink RL 105 yL_set : Cond) ∈ TBL := tb_at 954 (by decide +kernel) (by decide +kernel)
theorem q_955 : (.static yL_set : Cond) ∈ TBL := tb_at 955 (by decide +kernel) (by decide +kernel)
theorem q_956 : (.codeWith yL_set cL_set 5 (Option.some FieldType.int) [(0, 10, 13, 13)] : Cond) ∈ TBL := tb_at 956 (by decide +kernel) (by decide +kernel)
theorem q_957 : (.methodLink RL 26 yX10_set : Cond) ∈ TBL := tb_at 957 (by decide +kernel) (by decide +kernel)
theorem q_958 : (.instanceMethod yX10_set : Cond) ∈ TBL := tb_at 958 (by decide +kernel) (by decide +kernel)
theorem q_959 : (.selects RX10 yX10_set yX10_set : Cond) ∈ TBL := tb_at 959 (by decide +kernel) (by decide +kernel)
theorem q_960 : (.code yX10_set cX10_set 3 (Option.some FieldType.int) : Cond) ∈ TBL := tb_at 960 (by decide +kernel) (by decide +kernel)
theorem q_961 : (.methodLink RL 108 yL_bid : Cond) ∈ TBL := tb_at 961 (by decide +kernel) (by decide +kernel)
theorem q_962 : (.static yL_bid : Cond) ∈ TBL := tb_at 962 (by decide +kernel) (by decide +kernel)
theorem q_963 : (.codeWith yL_bid cL_bid 5 (Option.some FieldType.int) [(0, 10, 13, 20), (0, 10, 17, 13), (0, 10, 21, 15)] : Cond) ∈ TBL := tb_at 963 (by decide +kernel) (by decide +kernel)
theorem q_964 : (.methodLink RL 29 yX10_bid : Cond) ∈ TBL := tb_at 964 (by decide +kernel) (by decide +kernel)
theorem q_965 : (.instanceMethod yX10_bid : Cond) ∈ TBL := tb_at 965 (by decide +kernel) (by decide +kernel)
theorem q_966 : (.selects RX10 yX10_bid yX10_bid : Cond) ∈ TBL := tb_at 966 (by decide +kernel) (by decide +kernel)
theorem q_967 : (.code yX10_bid cX10_bid 3 (Option.some FieldType.int) : Cond) ∈ TBL := tb_at 967 (by decide +kernel) (by decide +kernel)
theorem q_968 : (.methodLink RL 111 yL_order : Cond) ∈ TBL := tb_at 968 (by decide +kernel) (by decide +kernel)
theorem q_969 : (.static yL_order : Cond) ∈ TBL := tb_at 969 (by decide +kernel) (by decide +kernel)
theorem q_970 : (.codeWith yL_order cL_order 6 (Option.some FieldType.int) [(0, 12, 15, 20), (0, 12, 19, 13), (0, 12, 23, 15)] : Cond) ∈ TBL := tb_at 970 (by decide +kernel) (by decide +kernel)
theorem q_971 : (.methodLink RL 32 yX10_order : Cond) ∈ TBL := tb_at 971 (by decide +kernel) (by decide +kernel)
theorem q_972 : (.instanceMethod yX10_order : Cond) ∈ TBL := tb_at 972 (by decide +kernel) (by decide +kernel)
theorem q_973 : (.selects RX10 yX10_order yX10_order : Cond) ∈ TBL := tb_at 973 (by decide +kernel) (by decide +kernel)
theorem q_974 : (.code yX10_order cX10_order 4 (Option.some FieldType.int) : Cond) ∈ TBL := tb_at 974 (by decide +kernel) (by decide +kernel)
theorem q_975 : (.methodLink RL 114 yL_cancel : Cond) ∈ TBL := tb_at 975 (by decide +kernel) (by decide +kernel)
theorem q_976 : (.static yL_cancel : Cond) ∈ TBL := tb_at 976 (by decide +kernel) (by decide +kernel)
theorem q_977 : (.codeWith yL_cancel cL_cancel 4 (Option.some FieldType.int) [(0, 9, 12, 20)] : Cond) ∈ TBL := tb_at 977 (by decide +kernel) (by decide +kernel)
theorem q_978 : (.methodLink RL 35 yX10_cancel : Cond) ∈ TBL := tb_at 978 (by decide +kernel) (by decide +kernel)
theorem q_979 : (.instanceMethod yX10_cancel : Cond) ∈ TBL := tb_at 979 (by decide +kernel) (by decide +kernel)
theorem q_980 : (.selects RX10 yX10_cancel yX10_cancel : Cond) ∈ TBL := tb_at 980 (by decide +kernel) (by decide +kernel)
theorem q_981 : (.code yX10_cancel cX10_cancel 2 (Option.some FieldType.int) : Cond) ∈ TBL := tb_at 981 (by decide +kernel) (by decide +kernel)
theorem q_982 : (.methodLink RL 118 yL_clear : Cond) ∈ TBL := tb_at 982 (by decide +kernel) (by decide +kernel)
theorem q_983 : (.static yL_clear : Cond) ∈ TBL := tb_at 983 (by decide +kernel) (by decide +kernel)
theorem q_984 : (.codeWith yL_clear cL_clear 3 (Option.some FieldType.int) [(0, 8, 11, 15)] : Cond) ∈ TBL := tb_at 984 (by decide +kernel) (by decide +kernel)
theorem q_985 : (.methodLink RL 39 yX10_clear : Cond) ∈ TBL := tb_at 985 (by decide +kernel) (by decide +kernel)
theorem q_986 : (.instanceMethod yX10_clear : Cond) ∈ TBL := tb_at 986 (by decide +kernel) (by decide +kernel)
theorem q_987 : (.selects RX10 yX10_clear yX10_clear : Cond) ∈ TBL := tb_at 987 (by decide +kernel) (by decide +kernel)
theorem q_988 : (.code yX10_clear cX10_clear 1 (Option.some FieldType.int) : Cond) ∈ TBL := tb_at 988 (by decide +kernel) (by decide +kernel)
theorem q_989 : (.methodLink RL 122 yL_trader : Cond) ∈ TBL := tb_at 989 (by decide +kernel) (by decide +kernel)
theorem q_990 : (.static yL_trader : Cond) ∈ TBL := tb_at 990 (by decide +kernel) (by decide +kernel)
theorem q_991 : (.codeWith yL_trader cL_trader 5 (Option.some FieldType.int) [(0, 10, 13, 20), (0, 10, 17, 13)] : Cond) ∈ TBL := tb_at 991 (by decide +kernel) (by decide +kernel)
theorem q_992 : (.methodLink RL 43 yX10_trader : Cond) ∈ TBL := tb_at 992 (by decide +kernel) (by decide +kernel)
theorem q_993 : (.instanceMethod yX10_trader : Cond) ∈ TBL := tb_at 993 (by decide +kernel) (by decide +kernel)
theorem q_994 : (.selects RX10 yX10_trader yX10_trader : Cond) ∈ TBL := tb_at 994 (by decide +kernel) (by decide +kernel)
theorem q_995 : (.code yX10_trader cX10_trader 3 (Option.some FieldType.int) : Cond) ∈ TBL := tb_at 995 (by decide +kernel) (by decide +kernel)
theorem q_996 : (.methodLink RX10 124 yX6_faultOfNumber : Cond) ∈ TBL := tb_at 996 (by decide +kernel) (by decide +kernel)
theorem q_997 : (.instanceMethod yX6_faultOfNumber : Cond) ∈ TBL := tb_at 997 (by decide +kernel) (by decide +kernel)
theorem q_998 : (.selects RX6 yX6_faultOfNumber yX6_faultOfNumber : Cond) ∈ TBL := tb_at 998 (by decide +kernel) (by decide +kernel)
theorem q_999 : (.code yX6_faultOfNumber cX6_faultOfNumber 2 (Option.some FieldType.int) : Cond) ∈ TBL := tb_at 999 (by decide +kernel) (by decide +kernel)
theorem q_1000 : (.methodLink RX6 42 yX6_has : Cond) ∈ TBL := tb_at 1000 (by decide +kernel) (by decide +kernel)
theorem q_1001 : (.methodLink RX10 125 yX10_faultOfWhat : Cond) ∈ TBL := tb_at 1001 (by decide +kernel) (by decide +kernel)
theorem q_1002 : (.static yX10_faultOfWhat : Cond) ∈ TBL := tb_at 1002 (by decide +kernel) (by decide +kernel)
theorem q_1003 : (.code yX10_faultOfWhat cX10_faultOfWhat 2 (Option.some FieldType.int) : Cond) ∈ TBL := tb_at 1003 (by decide +kernel) (by decide +kernel)
theorem q_1004 : (.methodLink RX10 261 yX10_isWithin : Cond) ∈ TBL := tb_at 1004 (by decide +kernel) (by decide +kernel)
theorem q_1005 : (.methodLink RL 125 yL_orderOf : Cond) ∈ TBL := tb_at 1005 (by decide +kernel) (by decide +kernel)
theorem q_1006 : (.static yL_orderOf : Cond) ∈ TBL := tb_at 1006 (by decide +kernel) (by decide +kernel)
theorem q_1007 : (.codeWith yL_orderOf cL_orderOf 5 (Option.some FieldType.int) [(0, 10, 13, 20), (0, 10, 17, 13)] : Cond) ∈ TBL := tb_at 1007 (by decide +kernel) (by decide +kernel)
theorem q_1008 : (.methodLink RL 46 yX10_orderOf : Cond) ∈ TBL := tb_at 1008 (by decide +kernel) (by decide +kernel)
theorem q_1009 : (.instanceMethod yX10_orderOf : Cond) ∈ TBL := tb_at 1009 (by decide +kernel) (by decide +kernel)
theorem q_1010 : (.selects RX10 yX10_orderOf yX10_orderOf : Cond) ∈ TBL := tb_at 1010 (by decide +kernel) (by decide +kernel)
theorem q_1011 : (.code yX10_orderOf cX10_orderOf 3 (Option.some FieldType.int) : Cond) ∈ TBL := tb_at 1011 (by decide +kernel) (by decide +kernel)
theorem q_1012 : (.methodLink RX10 131 yX4_indexOf : Cond) ∈ TBL := tb_at 1012 (by decide +kernel) (by decide +kernel)
theorem q_1013 : (.methodLink RL 128 yL_trade : Cond) ∈ TBL := tb_at 1013 (by decide +kernel) (by decide +kernel)
theorem q_1014 : (.static yL_trade : Cond) ∈ TBL := tb_at 1014 (by decide +kernel) (by decide +kernel)
theorem q_1015 : (.codeWith yL_trade cL_trade 5 (Option.some FieldType.int) [(0, 10, 13, 13)] : Cond) ∈ TBL := tb_at 1015 (by decide +kernel) (by decide +kernel)
theorem q_1016 : (.methodLink RL 49 yX10_trade : Cond) ∈ TBL := tb_at 1016 (by decide +kernel) (by decide +kernel)
theorem q_1017 : (.instanceMethod yX10_trade : Cond) ∈ TBL := tb_at 1017 (by decide +kernel) (by decide +kernel)
theorem q_1018 : (.selects RX10 yX10_trade yX10_trade : Cond) ∈ TBL := tb_at 1018 (by decide +kernel) (by decide +kernel)
theorem q_1019 : (.code yX10_trade cX10_trade 3 (Option.some FieldType.int) : Cond) ∈ TBL := tb_at 1019 (by decide +kernel) (by decide +kernel)
theorem q_1020 : (.methodLink RL 131 yL_at : Cond) ∈ TBL := tb_at 1020 (by decide +kernel) (by decide +kernel)
theorem q_1021 : (.static yL_at : Cond) ∈ TBL := tb_at 1021 (by decide +kernel) (by decide +kernel)
theorem q_1022 : (.codeWith yL_at cL_at 5 (Option.some FieldType.int) [(0, 10, 13, 13)] : Cond) ∈ TBL := tb_at 1022 (by decide +kernel) (by decide +kernel)
theorem q_1023 : (.methodLink RL 52 yX10_at : Cond) ∈ TBL := tb_at 1023 (by decide +kernel) (by decide +kernel)
theorem q_1024 : (.instanceMethod yX10_at : Cond) ∈ TBL := tb_at 1024 (by decide +kernel) (by decide +kernel)
theorem q_1025 : (.selects RX10 yX10_at yX10_at : Cond) ∈ TBL := tb_at 1025 (by decide +kernel) (by decide +kernel)
theorem q_1026 : (.code yX10_at cX10_at 3 (Option.some FieldType.int) : Cond) ∈ TBL := tb_at 1026 (by decide +kernel) (by decide +kernel)
theorem q_1027 : (.methodLink RX10 144 yX10_faultOfPrice : Cond) ∈ TBL := tb_at 1027 (by decide +kernel) (by decide +kernel)
theorem q_1028 : (.static yX10_faultOfPrice : Cond) ∈ TBL := tb_at 1028 (by decide +kernel) (by decide +kernel)
theorem q_1029 : (.code yX10_faultOfPrice cX10_faultOfPrice 1 (Option.some FieldType.int) : Cond) ∈ TBL := tb_at 1029 (by decide +kernel) (by decide +kernel)
theorem q_1030 : (.methodLink RX10 147 yX4_bookValue : Cond) ∈ TBL := tb_at 1030 (by decide +kernel) (by decide +kernel)
theorem q_1031 : (.instanceMethod yX4_bookValue : Cond) ∈ TBL := tb_at 1031 (by decide +kernel) (by decide +kernel)
theorem q_1032 : (.selects RX4 yX4_bookValue yX4_bookValue : Cond) ∈ TBL := tb_at 1032 (by decide +kernel) (by decide +kernel)
theorem q_1033 : (.code yX4_bookValue cX4_bookValue 3 (Option.some FieldType.int) : Cond) ∈ TBL := tb_at 1033 (by decide +kernel) (by decide +kernel)
theorem q_1034 : (.methodLink RX4 61 yX4_unitsAt : Cond) ∈ TBL := tb_at 1034 (by decide +kernel) (by decide +kernel)
theorem q_1035 : (.instanceMethod yX4_unitsAt : Cond) ∈ TBL := tb_at 1035 (by decide +kernel) (by decide +kernel)
theorem q_1036 : (.selects RX4 yX4_unitsAt yX4_unitsAt : Cond) ∈ TBL := tb_at 1036 (by decide +kernel) (by decide +kernel)
theorem q_1037 : (.code yX4_unitsAt cX4_unitsAt 5 (Option.some FieldType.int) : Cond) ∈ TBL := tb_at 1037 (by decide +kernel) (by decide +kernel)
theorem q_1038 : (.methodLink RX4 58 yX4_accepts : Cond) ∈ TBL := tb_at 1038 (by decide +kernel) (by decide +kernel)
theorem q_1039 : (.instanceMethod yX4_accepts : Cond) ∈ TBL := tb_at 1039 (by decide +kernel) (by decide +kernel)
theorem q_1040 : (.selects RX4 yX4_accepts yX4_accepts : Cond) ∈ TBL := tb_at 1040 (by decide +kernel) (by decide +kernel)
theorem q_1041 : (.code yX4_accepts cX4_accepts 3 (Option.some FieldType.boolean) : Cond) ∈ TBL := tb_at 1041 (by decide +kernel) (by decide +kernel)
theorem q_1042 : (.methodLink RX4 65 yJ9_min_7cf53 : Cond) ∈ TBL := tb_at 1042 (by decide +kernel) (by decide +kernel)
theorem q_1043 : (.methodLink RL 134 yL_now : Cond) ∈ TBL := tb_at 1043 (by decide +kernel) (by decide +kernel)
theorem q_1044 : (.static yL_now : Cond) ∈ TBL := tb_at 1044 (by decide +kernel) (by decide +kernel)
theorem q_1045 : (.codeWith yL_now cL_now 4 (Option.some FieldType.int) [(0, 9, 12, 13)] : Cond) ∈ TBL := tb_at 1045 (by decide +kernel) (by decide +kernel)
theorem q_1046 : (.methodLink RL 55 yX10_now : Cond) ∈ TBL := tb_at 1046 (by decide +kernel) (by decide +kernel)
theorem q_1047 : (.instanceMethod yX10_now : Cond) ∈ TBL := tb_at 1047 (by decide +kernel) (by decide +kernel)
theorem q_1048 : (.selects RX10 yX10_now yX10_now : Cond) ∈ TBL := tb_at 1048 (by decide +kernel) (by decide +kernel)
theorem q_1049 : (.code yX10_now cX10_now 2 (Option.some FieldType.int) : Cond) ∈ TBL := tb_at 1049 (by decide +kernel) (by decide +kernel)
theorem q_1050 : (.methodLink RL 137 yL_whole : Cond) ∈ TBL := tb_at 1050 (by decide +kernel) (by decide +kernel)
theorem q_1051 : (.static yL_whole : Cond) ∈ TBL := tb_at 1051 (by decide +kernel) (by decide +kernel)
theorem q_1052 : (.codeWith yL_whole cL_whole 4 (Option.some FieldType.int) [(0, 9, 12, 13)] : Cond) ∈ TBL := tb_at 1052 (by decide +kernel) (by decide +kernel)
theorem q_1053 : (.methodLink RL 58 yX10_whole : Cond) ∈ TBL := tb_at 1053 (by decide +kernel) (by decide +kernel)
theorem q_1054 : (.instanceMethod yX10_whole : Cond) ∈ TBL := tb_at 1054 (by decide +kernel) (by decide +kernel)
theorem q_1055 : (.selects RX10 yX10_whole yX10_whole : Cond) ∈ TBL := tb_at 1055 (by decide +kernel) (by decide +kernel)
theorem q_1056 : (.code yX10_whole cX10_whole 2 (Option.some FieldType.int) : Cond) ∈ TBL := tb_at 1056 (by decide +kernel) (by decide +kernel)
theorem q_1057 : (.methodLink RL 140 yL_filled : Cond) ∈ TBL := tb_at 1057 (by decide +kernel) (by decide +kernel)
theorem q_1058 : (.static yL_filled : Cond) ∈ TBL := tb_at 1058 (by decide +kernel) (by decide +kernel)
theorem q_1059 : (.codeWith yL_filled cL_filled 4 (Option.some FieldType.int) [(0, 9, 12, 20)] : Cond) ∈ TBL := tb_at 1059 (by decide +kernel) (by decide +kernel)
theorem q_1060 : (.methodLink RL 61 yX10_filled : Cond) ∈ TBL := tb_at 1060 (by decide +kernel) (by decide +kernel)
theorem q_1061 : (.instanceMethod yX10_filled : Cond) ∈ TBL := tb_at 1061 (by decide +kernel) (by decide +kernel)
theorem q_1062 : (.selects RX10 yX10_filled yX10_filled : Cond) ∈ TBL := tb_at 1062 (by decide +kernel) (by decide +kernel)
theorem q_1063 : (.code yX10_filled cX10_filled 2 (Option.some FieldType.int) : Cond) ∈ TBL := tb_at 1063 (by decide +kernel) (by decide +kernel)
theorem q_1064 : (.methodLink RL 143 yL_reason : Cond) ∈ TBL := tb_at 1064 (by decide +kernel) (by decide +kernel)
theorem q_1065 : (.static yL_reason : Cond) ∈ TBL := tb_at 1065 (by decide +kernel) (by decide +kernel)
theorem q_1066 : (.codeWith yL_reason cL_reason 4 (Option.some FieldType.int) [(0, 9, 12, 20)] : Cond) ∈ TBL := tb_at 1066 (by decide +kernel) (by decide +kernel)
theorem q_1067 : (.methodLink RL 64 yX10_reason : Cond) ∈ TBL := tb_at 1067 (by decide +kernel) (by decide +kernel)
theorem q_1068 : (.instanceMethod yX10_reason : Cond) ∈ TBL := tb_at 1068 (by decide +kernel) (by decide +kernel)
theorem q_1069 : (.selects RX10 yX10_reason yX10_reason : Cond) ∈ TBL := tb_at 1069 (by decide +kernel) (by decide +kernel)
theorem q_1070 : (.code yX10_reason cX10_reason 2 (Option.some FieldType.int) : Cond) ∈ TBL := tb_at 1070 (by decide +kernel) (by decide +kernel)
theorem q_1071 : (.methodLink RX10 162 yX2_reasonOf : Cond) ∈ TBL := tb_at 1071 (by decide +kernel) (by decide +kernel)
theorem q_1072 : (.instanceMethod yX2_reasonOf : Cond) ∈ TBL := tb_at 1072 (by decide +kernel) (by decide +kernel)
theorem q_1073 : (.selects RX2 yX2_reasonOf yX2_reasonOf : Cond) ∈ TBL := tb_at 1073 (by decide +kernel) (by decide +kernel)
theorem q_1074 : (.code yX2_reasonOf cX2_reasonOf 3 (Option.some FieldType.int) : Cond) ∈ TBL := tb_at 1074 (by decide +kernel) (by decide +kernel)
theorem q_1075 : (.methodLink RX2 97 yX4_accepts : Cond) ∈ TBL := tb_at 1075 (by decide +kernel) (by decide +kernel)
theorem q_1076 : (.methodLink RL 146 yL_gainWith : Cond) ∈ TBL := tb_at 1076 (by decide +kernel) (by decide +kernel)
theorem q_1077 : (.static yL_gainWith : Cond) ∈ TBL := tb_at 1077 (by decide +kernel) (by decide +kernel)
theorem q_1078 : (.codeWith yL_gainWith cL_gainWith 5 (Option.some FieldType.int) [(0, 10, 13, 20), (0, 10, 17, 13)] : Cond) ∈ TBL := tb_at 1078 (by decide +kernel) (by decide +kernel)
theorem q_1079 : (.methodLink RL 67 yX10_gainWith : Cond) ∈ TBL := tb_at 1079 (by decide +kernel) (by decide +kernel)
theorem q_1080 : (.instanceMethod yX10_gainWith : Cond) ∈ TBL := tb_at 1080 (by decide +kernel) (by decide +kernel)
theorem q_1081 : (.selects RX10 yX10_gainWith yX10_gainWith : Cond) ∈ TBL := tb_at 1081 (by decide +kernel) (by decide +kernel)
theorem q_1082 : (.code yX10_gainWith cX10_gainWith 3 (Option.some FieldType.int) : Cond) ∈ TBL := tb_at 1082 (by decide +kernel) (by decide +kernel)
theorem q_1083 : (.methodLink RX10 166 yX4_isFull : Cond) ∈ TBL := tb_at 1083 (by decide +kernel) (by decide +kernel)
theorem q_1084 : (.methodLink RX10 170 yX1_copyFrom : Cond) ∈ TBL := tb_at 1084 (by decide +kernel) (by decide +kernel)
theorem q_1085 : (.methodLink RX10 177 yX2_gainOf : Cond) ∈ TBL := tb_at 1085 (by decide +kernel) (by decide +kernel)
theorem q_1086 : (.instanceMethod yX2_gainOf : Cond) ∈ TBL := tb_at 1086 (by decide +kernel) (by decide +kernel)
theorem q_1087 : (.selects RX2 yX2_gainOf yX2_gainOf : Cond) ∈ TBL := tb_at 1087 (by decide +kernel) (by decide +kernel)
theorem q_1088 : (.code yX2_gainOf cX2_gainOf 4 (Option.some FieldType.int) : Cond) ∈ TBL := tb_at 1088 (by decide +kernel) (by decide +kernel)
theorem q_1089 : (.methodLink RX2 107 yX2_takenOf : Cond) ∈ TBL := tb_at 1089 (by decide +kernel) (by decide +kernel)
theorem q_1090 : (.methodLink RX2 115 yX6_gainPerUnit : Cond) ∈ TBL := tb_at 1090 (by decide +kernel) (by decide +kernel)
theorem q_1091 : (.methodLink RL 149 yL_bestShade : Cond) ∈ TBL := tb_at 1091 (by decide +kernel) (by decide +kernel)
theorem q_1092 : (.static yL_bestShade : Cond) ∈ TBL := tb_at 1092 (by decide +kernel) (by decide +kernel)
theorem q_1093 : (.codeWith yL_bestShade cL_bestShade 4 (Option.some FieldType.int) [(0, 9, 12, 20)] : Cond) ∈ TBL := tb_at 1093 (by decide +kernel) (by decide +kernel)
theorem q_1094 : (.methodLink RL 70 yX10_bestShade : Cond) ∈ TBL := tb_at 1094 (by decide +kernel) (by decide +kernel)
theorem q_1095 : (.instanceMethod yX10_bestShade : Cond) ∈ TBL := tb_at 1095 (by decide +kernel) (by decide +kernel)
theorem q_1096 : (.selects RX10 yX10_bestShade yX10_bestShade : Cond) ∈ TBL := tb_at 1096 (by decide +kernel) (by decide +kernel)
theorem q_1097 : (.code yX10_bestShade cX10_bestShade 2 (Option.some FieldType.int) : Cond) ∈ TBL := tb_at 1097 (by decide +kernel) (by decide +kernel)
theorem q_1098 : (.methodLink RX10 181 yX10_bestShadeOfLastOrder : Cond) ∈ TBL := tb_at 1098 (by decide +kernel) (by decide +kernel)
theorem q_1100 : (.instanceMethod yX10_bestShadeOfLastOrder : Cond) ∈ TBL := tb_at 1100 (by decide +kernel) (by decide +kernel)
theorem q_1101 : (.code yX10_bestShadeOfLastOrder cX10_bestShadeOfLastOrder 7 (Option.some FieldType.int) : Cond) ∈ TBL := tb_at 1101 (by decide +kernel) (by decide +kernel)
theorem q_1102 : (.methodLink RX10 271 yX6_bidWith : Cond) ∈ TBL := tb_at 1102 (by decide +kernel) (by decide +kernel)
theorem q_1103 : (.methodLink RL 152 yL_bestSplit : Cond) ∈ TBL := tb_at 1103 (by decide +kernel) (by decide +kernel)
theorem q_1104 : (.static yL_bestSplit : Cond) ∈ TBL := tb_at 1104 (by decide +kernel) (by decide +kernel)
theorem q_1105 : (.codeWith yL_bestSplit cL_bestSplit 4 (Option.some FieldType.int) [(0, 9, 12, 20)] : Cond) ∈ TBL := tb_at 1105 (by decide +kernel) (by decide +kernel)
theorem q_1106 : (.methodLink RL 73 yX10_bestSplit : Cond) ∈ TBL := tb_at 1106 (by decide +kernel) (by decide +kernel)
theorem q_1107 : (.instanceMethod yX10_bestSplit : Cond) ∈ TBL := tb_at 1107 (by decide +kernel) (by decide +kernel)
theorem q_1108 : (.selects RX10 yX10_bestSplit yX10_bestSplit : Cond) ∈ TBL := tb_at 1108 (by decide +kernel) (by decide +kernel)
theorem q_1109 : (.code yX10_bestSplit cX10_bestSplit 6 (Option.some FieldType.int) : Cond) ∈ TBL := tb_at 1109 (by decide +kernel) (by decide +kernel)
theorem q_1110 : (.methodLink RX10 187 yX2_priceWith : Cond) ∈ TBL := tb_at 1110 (by decide +kernel) (by decide +kernel)
theorem q_1111 : (.methodLink RL 155 yL_goneIn : Cond) ∈ TBL := tb_at 1111 (by decide +kernel) (by decide +kernel)
theorem q_1112 : (.static yL_goneIn : Cond) ∈ TBL := tb_at 1112 (by decide +kernel) (by decide +kernel)
theorem q_1113 : (.codeWith yL_goneIn cL_goneIn 4 (Option.some FieldType.int) [(0, 9, 12, 20)] : Cond) ∈ TBL := tb_at 1113 (by decide +kernel) (by decide +kernel)
theorem q_1114 : (.methodLink RL 76 yX10_goneIn : Cond) ∈ TBL := tb_at 1114 (by decide +kernel) (by decide +kernel)
theorem q_1115 : (.instanceMethod yX10_goneIn : Cond) ∈ TBL := tb_at 1115 (by decide +kernel) (by decide +kernel)
theorem q_1116 : (.selects RX10 yX10_goneIn yX10_goneIn : Cond) ∈ TBL := tb_at 1116 (by decide +kernel) (by decide +kernel)
theorem q_1117 : (.code yX10_goneIn cX10_goneIn 3 (Option.some FieldType.int) : Cond) ∈ TBL := tb_at 1117 (by decide +kernel) (by decide +kernel)
theorem q_1118 : (.methodLink RL 158 yL_type : Cond) ∈ TBL := tb_at 1118 (by decide +kernel) (by decide +kernel)
theorem q_1119 : (.static yL_type : Cond) ∈ TBL := tb_at 1119 (by decide +kernel) (by decide +kernel)
theorem q_1120 : (.codeWith yL_type cL_type 4 (Option.some FieldType.int) [(0, 9, 12, 13), (0, 9, 15, 15)] : Cond) ∈ TBL := tb_at 1120 (by decide +kernel) (by decide +kernel)
theorem q_1121 : (.methodLink RL 79 yX10_type : Cond) ∈ TBL := tb_at 1121 (by decide +kernel) (by decide +kernel)
theorem q_1122 : (.instanceMethod yX10_type : Cond) ∈ TBL := tb_at 1122 (by decide +kernel) (by decide +kernel)
theorem q_1123 : (.selects RX10 yX10_type yX10_type : Cond) ∈ TBL := tb_at 1123 (by decide +kernel) (by decide +kernel)
theorem q_1124 : (.code yX10_type cX10_type 2 (Option.some FieldType.int) : Cond) ∈ TBL := tb_at 1124 (by decide +kernel) (by decide +kernel)
theorem q_1125 : (.methodLink RX10 190 yX3_faultOfByte : Cond) ∈ TBL := tb_at 1125 (by decide +kernel) (by decide +kernel)
theorem q_1126 : (.instanceMethod yX3_faultOfByte : Cond) ∈ TBL := tb_at 1126 (by decide +kernel) (by decide +kernel)
theorem q_1127 : (.selects RX3 yX3_faultOfByte yX3_faultOfByte : Cond) ∈ TBL := tb_at 1127 (by decide +kernel) (by decide +kernel)
theorem q_1128 : (.code yX3_faultOfByte cX3_faultOfByte 2 (Option.some FieldType.int) : Cond) ∈ TBL := tb_at 1128 (by decide +kernel) (by decide +kernel)
theorem q_1129 : (.methodLink RX10 193 yX3_append : Cond) ∈ TBL := tb_at 1129 (by decide +kernel) (by decide +kernel)
theorem q_1130 : (.instanceMethod yX3_append : Cond) ∈ TBL := tb_at 1130 (by decide +kernel) (by decide +kernel)
theorem q_1131 : (.selects RX3 yX3_append yX3_append : Cond) ∈ TBL := tb_at 1131 (by decide +kernel) (by decide +kernel)
theorem q_1132 : (.code yX3_append cX3_append 2 (Option.some FieldType.int) : Cond) ∈ TBL := tb_at 1132 (by decide +kernel) (by decide +kernel)
theorem q_1133 : (.methodLink RL 169 yL_undo : Cond) ∈ TBL := tb_at 1133 (by decide +kernel) (by decide +kernel)
theorem q_1134 : (.static yL_undo : Cond) ∈ TBL := tb_at 1134 (by decide +kernel) (by decide +kernel)
theorem q_1135 : (.codeWith yL_undo cL_undo 3 (Option.some FieldType.int) [(0, 8, 11, 15)] : Cond) ∈ TBL := tb_at 1135 (by decide +kernel) (by decide +kernel)
theorem q_1136 : (.methodLink RL 82 yX10_undo : Cond) ∈ TBL := tb_at 1136 (by decide +kernel) (by decide +kernel)
theorem q_1137 : (.instanceMethod yX10_undo : Cond) ∈ TBL := tb_at 1137 (by decide +kernel) (by decide +kernel)
theorem q_1138 : (.selects RX10 yX10_undo yX10_undo : Cond) ∈ TBL := tb_at 1138 (by decide +kernel) (by decide +kernel)
theorem q_1139 : (.code yX10_undo cX10_undo 1 (Option.some FieldType.int) : Cond) ∈ TBL := tb_at 1139 (by decide +kernel) (by decide +kernel)
theorem q_1140 : (.methodLink RX10 217 yX8_pop : Cond) ∈ TBL := tb_at 1140 (by decide +kernel) (by decide +kernel)
theorem q_1141 : (.instanceMethod yX8_pop : Cond) ∈ TBL := tb_at 1141 (by decide +kernel) (by decide +kernel)
theorem q_1142 : (.selects RX8 yX8_pop yX8_pop : Cond) ∈ TBL := tb_at 1142 (by decide +kernel) (by decide +kernel)
theorem q_1143 : (.code yX8_pop cX8_pop 3 Option.none : Cond) ∈ TBL := tb_at 1143 (by decide +kernel) (by decide +kernel)
theorem q_1144 : (.classLink RL 86 RX11 : Cond) ∈ TBL := tb_at 1144 (by decide +kernel) (by decide +kernel)
theorem q_1145 : (.instantiable RX11 14 : Cond) ∈ TBL := tb_at 1145 (by decide +kernel) (by decide +kernel)
theorem q_1146 : (.methodLink RL 88 yX11_init : Cond) ∈ TBL := tb_at 1146 (by decide +kernel) (by decide +kernel)
theorem q_1147 : (.instanceMethod yX11_init : Cond) ∈ TBL := tb_at 1147 (by decide +kernel) (by decide +kernel)
theorem q_1148 : (.code yX11_init cX11_init 1 Option.none : Cond) ∈ TBL := tb_at 1148 (by decide +kernel) (by decide +kernel)
theorem q_1149 : (.methodLink RX11 1 ⟨"java/lang/Object", "<init>", "()V"⟩ : Cond) ∈ TBL := tb_at 1149 (by decide +kernel) (by decide +kernel)
theorem q_1150 : (.fieldLink RX11 7 RX11 "now" "[I" : Cond) ∈ TBL := tb_at 1150 (by decide +kernel) (by decide +kernel)
theorem q_1151 : (.fieldLink RX11 13 RX11 "kept" "[I" : Cond) ∈ TBL := tb_at 1151 (by decide +kernel) (by decide +kernel)
theorem q_1152 : (.fieldLink RX11 37 RX11 "states" "I" : Cond) ∈ TBL := tb_at 1152 (by decide +kernel) (by decide +kernel)
theorem q_1153 : (.fieldLink RX11 25 RX11 "thrown" "I" : Cond) ∈ TBL := tb_at 1153 (by decide +kernel) (by decide +kernel)
theorem q_1154 : (.fieldLink RX11 118 RX11 "lowest" "I" : Cond) ∈ TBL := tb_at 1154 (by decide +kernel) (by decide +kernel)
theorem q_1155 : (.fieldLink RX11 121 RX11 "highest" "I" : Cond) ∈ TBL := tb_at 1155 (by decide +kernel) (by decide +kernel)
theorem q_1156 : (.fieldLink RX11 127 RX11 "price" "I" : Cond) ∈ TBL := tb_at 1156 (by decide +kernel) (by decide +kernel)
theorem q_1157 : (.fieldLink RX11 115 RX11 "volume" "I" : Cond) ∈ TBL := tb_at 1157 (by decide +kernel) (by decide +kernel)
theorem q_1158 : (.fieldLink RX11 16 RX11 "text" "[I" : Cond) ∈ TBL := tb_at 1158 (by decide +kernel) (by decide +kernel)
theorem q_1159 : (.fieldLink RX11 201 RX11 "length" "I" : Cond) ∈ TBL := tb_at 1159 (by decide +kernel) (by decide +kernel)
theorem q_1160 : (.fieldLink RX11 213 RX11 "at" "I" : Cond) ∈ TBL := tb_at 1160 (by decide +kernel) (by decide +kernel)
theorem q_1161 : (.fieldLink RX11 232 RX11 "kind" "I" : Cond) ∈ TBL := tb_at 1161 (by decide +kernel) (by decide +kernel)
theorem q_1162 : (.fieldLink RX11 19 RX11 "numbers" "[I" : Cond) ∈ TBL := tb_at 1162 (by decide +kernel) (by decide +kernel)
theorem q_1163 : (.fieldLink RX11 22 RX11 "fills" "[I" : Cond) ∈ TBL := tb_at 1163 (by decide +kernel) (by decide +kernel)
theorem q_1192 : (.superclass RX11 "java/lang/Object" : Cond) ∈ TBL := tb_at 1192 (by decide +kernel) (by decide +kernel)
theorem q_1193 : (.methodLink RL 95 yX11_thrown : Cond) ∈ TBL := tb_at 1193 (by decide +kernel) (by decide +kernel)
theorem q_1194 : (.instanceMethod yX11_thrown : Cond) ∈ TBL := tb_at 1194 (by decide +kernel) (by decide +kernel)
theorem q_1195 : (.selects RX11 yX11_thrown yX11_thrown : Cond) ∈ TBL := tb_at 1195 (by decide +kernel) (by decide +kernel)
theorem q_1196 : (.code yX11_thrown cX11_thrown 1 (Option.some FieldType.int) : Cond) ∈ TBL := tb_at 1196 (by decide +kernel) (by decide +kernel)
theorem q_1197 : (.methodLink RL 171 yX11_undo : Cond) ∈ TBL := tb_at 1197 (by decide +kernel) (by decide +kernel)
theorem q_1198 : (.instanceMethod yX11_undo : Cond) ∈ TBL := tb_at 1198 (by decide +kernel) (by decide +kernel)
theorem q_1199 : (.selects RX11 yX11_undo yX11_undo : Cond) ∈ TBL := tb_at 1199 (by decide +kernel) (by decide +kernel)
theorem q_1200 : (.code yX11_undo cX11_undo 1 (Option.some FieldType.int) : Cond) ∈ TBL := tb_at 1200 (by decide +kernel) (by decide +kernel)
theorem q_1201 : (.methodLink RX11 44 yX11_brings : Cond) ∈ TBL := tb_at 1201 (by decide +kernel) (by decide +kernel)
theorem q_1203 : (.instanceMethod yX11_brings : Cond) ∈ TBL := tb_at 1203 (by decide +kernel) (by decide +kernel)
theorem q_1204 : (.code yX11_brings cX11_brings 3 Option.none : Cond) ∈ TBL := tb_at 1204 (by decide +kernel) (by decide +kernel)
theorem q_1205 : (.methodLink RL 94 yX11_addTrader : Cond) ∈ TBL := tb_at 1205 (by decide +kernel) (by decide +kernel)
theorem q_1206 : (.instanceMethod yX11_addTrader : Cond) ∈ TBL := tb_at 1206 (by decide +kernel) (by decide +kernel)
theorem q_1207 : (.selects RX11 yX11_addTrader yX11_addTrader : Cond) ∈ TBL := tb_at 1207 (by decide +kernel) (by decide +kernel)
theorem q_1208 : (.code yX11_addTrader cX11_addTrader 3 (Option.some FieldType.int) : Cond) ∈ TBL := tb_at 1208 (by decide +kernel) (by decide +kernel)
theorem q_1209 : (.methodLink RX11 51 yX11_traderError : Cond) ∈ TBL := tb_at 1209 (by decide +kernel) (by decide +kernel)
theorem q_1211 : (.instanceMethod yX11_traderError : Cond) ∈ TBL := tb_at 1211 (by decide +kernel) (by decide +kernel)
theorem q_1212 : (.code yX11_traderError cX11_traderError 3 (Option.some FieldType.int) : Cond) ∈ TBL := tb_at 1212 (by decide +kernel) (by decide +kernel)
theorem q_1213 : (.methodLink RX11 29 yX11_isIn : Cond) ∈ TBL := tb_at 1213 (by decide +kernel) (by decide +kernel)
theorem q_1214 : (.static yX11_isIn : Cond) ∈ TBL := tb_at 1214 (by decide +kernel) (by decide +kernel)
theorem q_1215 : (.code yX11_isIn cX11_isIn 3 (Option.some FieldType.boolean) : Cond) ∈ TBL := tb_at 1215 (by decide +kernel) (by decide +kernel)
theorem q_1216 : (.methodLink RX11 54 yX11_records : Cond) ∈ TBL := tb_at 1216 (by decide +kernel) (by decide +kernel)
theorem q_1218 : (.instanceMethod yX11_records : Cond) ∈ TBL := tb_at 1218 (by decide +kernel) (by decide +kernel)
theorem q_1219 : (.code yX11_records cX11_records 2 Option.none : Cond) ∈ TBL := tb_at 1219 (by decide +kernel) (by decide +kernel)
theorem q_1220 : (.methodLink RX11 40 yX11_keeps : Cond) ∈ TBL := tb_at 1220 (by decide +kernel) (by decide +kernel)
theorem q_1222 : (.instanceMethod yX11_keeps : Cond) ∈ TBL := tb_at 1222 (by decide +kernel) (by decide +kernel)
theorem q_1223 : (.code yX11_keeps cX11_keeps 3 Option.none : Cond) ∈ TBL := tb_at 1223 (by decide +kernel) (by decide +kernel)
theorem q_1224 : (.methodLink RX11 57 yX11_addsTrader : Cond) ∈ TBL := tb_at 1224 (by decide +kernel) (by decide +kernel)
theorem q_1226 : (.instanceMethod yX11_addsTrader : Cond) ∈ TBL := tb_at 1226 (by decide +kernel) (by decide +kernel)
theorem q_1227 : (.code yX11_addsTrader cX11_addsTrader 5 (Option.some FieldType.int) : Cond) ∈ TBL := tb_at 1227 (by decide +kernel) (by decide +kernel)
theorem q_1228 : (.methodLink RX11 47 yX11_setsT : Cond) ∈ TBL := tb_at 1228 (by decide +kernel) (by decide +kernel)
theorem q_1230 : (.instanceMethod yX11_setsT : Cond) ∈ TBL := tb_at 1230 (by decide +kernel) (by decide +kernel)
theorem q_1231 : (.code yX11_setsT cX11_setsT 4 Option.none : Cond) ∈ TBL := tb_at 1231 (by decide +kernel) (by decide +kernel)
theorem q_1232 : (.methodLink RL 100 yX11_setValue : Cond) ∈ TBL := tb_at 1232 (by decide +kernel) (by decide +kernel)
theorem q_1233 : (.instanceMethod yX11_setValue : Cond) ∈ TBL := tb_at 1233 (by decide +kernel) (by decide +kernel)
theorem q_1234 : (.selects RX11 yX11_setValue yX11_setValue : Cond) ∈ TBL := tb_at 1234 (by decide +kernel) (by decide +kernel)
theorem q_1235 : (.code yX11_setValue cX11_setValue 4 (Option.some FieldType.int) : Cond) ∈ TBL := tb_at 1235 (by decide +kernel) (by decide +kernel)
theorem q_1236 : (.methodLink RX11 60 yX11_isTrader : Cond) ∈ TBL := tb_at 1236 (by decide +kernel) (by decide +kernel)
theorem q_1238 : (.instanceMethod yX11_isTrader : Cond) ∈ TBL := tb_at 1238 (by decide +kernel) (by decide +kernel)
theorem q_1239 : (.code yX11_isTrader cX11_isTrader 2 (Option.some FieldType.boolean) : Cond) ∈ TBL := tb_at 1239 (by decide +kernel) (by decide +kernel)
theorem q_1240 : (.methodLink RX11 64 yX11_ofT : Cond) ∈ TBL := tb_at 1240 (by decide +kernel) (by decide +kernel)
theorem q_1242 : (.instanceMethod yX11_ofT : Cond) ∈ TBL := tb_at 1242 (by decide +kernel) (by decide +kernel)
theorem q_1243 : (.code yX11_ofT cX11_ofT 3 (Option.some FieldType.int) : Cond) ∈ TBL := tb_at 1243 (by decide +kernel) (by decide +kernel)
theorem q_1244 : (.methodLink RL 104 yX11_setShade : Cond) ∈ TBL := tb_at 1244 (by decide +kernel) (by decide +kernel)
theorem q_1245 : (.instanceMethod yX11_setShade : Cond) ∈ TBL := tb_at 1245 (by decide +kernel) (by decide +kernel)
theorem q_1246 : (.selects RX11 yX11_setShade yX11_setShade : Cond) ∈ TBL := tb_at 1246 (by decide +kernel) (by decide +kernel)
theorem q_1247 : (.code yX11_setShade cX11_setShade 4 (Option.some FieldType.int) : Cond) ∈ TBL := tb_at 1247 (by decide +kernel) (by decide +kernel)
theorem q_1248 : (.methodLink RX11 74 yX11_shadeError : Cond) ∈ TBL := tb_at 1248 (by decide +kernel) (by decide +kernel)
theorem q_1250 : (.instanceMethod yX11_shadeError : Cond) ∈ TBL := tb_at 1250 (by decide +kernel) (by decide +kernel)
theorem q_1251 : (.code yX11_shadeError cX11_shadeError 4 (Option.some FieldType.int) : Cond) ∈ TBL := tb_at 1251 (by decide +kernel) (by decide +kernel)
theorem q_1252 : (.methodLink RX11 78 yX11_shades : Cond) ∈ TBL := tb_at 1252 (by decide +kernel) (by decide +kernel)
theorem q_1254 : (.instanceMethod yX11_shades : Cond) ∈ TBL := tb_at 1254 (by decide +kernel) (by decide +kernel)
theorem q_1255 : (.code yX11_shades cX11_shades 4 (Option.some FieldType.int) : Cond) ∈ TBL := tb_at 1255 (by decide +kernel) (by decide +kernel)
theorem q_1256 : (.methodLink RX11 70 yX11_bidOf : Cond) ∈ TBL := tb_at 1256 (by decide +kernel) (by decide +kernel)
theorem q_1258 : (.instanceMethod yX11_bidOf : Cond) ∈ TBL := tb_at 1258 (by decide +kernel) (by decide +kernel)
theorem q_1259 : (.code yX11_bidOf cX11_bidOf 4 (Option.some FieldType.int) : Cond) ∈ TBL := tb_at 1259 (by decide +kernel) (by decide +kernel)
theorem q_1260 : (.methodLink RX11 67 yX11_bidBy : Cond) ∈ TBL := tb_at 1260 (by decide +kernel) (by decide +kernel)
theorem q_1262 : (.instanceMethod yX11_bidBy : Cond) ∈ TBL := tb_at 1262 (by decide +kernel) (by decide +kernel)
theorem q_1263 : (.code yX11_bidBy cX11_bidBy 4 (Option.some FieldType.int) : Cond) ∈ TBL := tb_at 1263 (by decide +kernel) (by decide +kernel)
theorem q_1264 : (.methodLink RL 107 yX11_set : Cond) ∈ TBL := tb_at 1264 (by decide +kernel) (by decide +kernel)
theorem q_1265 : (.instanceMethod yX11_set : Cond) ∈ TBL := tb_at 1265 (by decide +kernel) (by decide +kernel)
theorem q_1266 : (.selects RX11 yX11_set yX11_set : Cond) ∈ TBL := tb_at 1266 (by decide +kernel) (by decide +kernel)
theorem q_1267 : (.code yX11_set cX11_set 3 (Option.some FieldType.int) : Cond) ∈ TBL := tb_at 1267 (by decide +kernel) (by decide +kernel)
theorem q_1268 : (.methodLink RX11 81 yX11_settingError : Cond) ∈ TBL := tb_at 1268 (by decide +kernel) (by decide +kernel)
theorem q_1269 : (.static yX11_settingError : Cond) ∈ TBL := tb_at 1269 (by decide +kernel) (by decide +kernel)
theorem q_1270 : (.code yX11_settingError cX11_settingError 3 (Option.some FieldType.int) : Cond) ∈ TBL := tb_at 1270 (by decide +kernel) (by decide +kernel)
theorem q_1271 : (.methodLink RX11 84 yX11_sets : Cond) ∈ TBL := tb_at 1271 (by decide +kernel) (by decide +kernel)
theorem q_1273 : (.instanceMethod yX11_sets : Cond) ∈ TBL := tb_at 1273 (by decide +kernel) (by decide +kernel)
theorem q_1274 : (.code yX11_sets cX11_sets 4 (Option.some FieldType.int) : Cond) ∈ TBL := tb_at 1274 (by decide +kernel) (by decide +kernel)
theorem q_1275 : (.methodLink RL 110 yX11_bid : Cond) ∈ TBL := tb_at 1275 (by decide +kernel) (by decide +kernel)
theorem q_1276 : (.instanceMethod yX11_bid : Cond) ∈ TBL := tb_at 1276 (by decide +kernel) (by decide +kernel)
theorem q_1277 : (.selects RX11 yX11_bid yX11_bid : Cond) ∈ TBL := tb_at 1277 (by decide +kernel) (by decide +kernel)
theorem q_1278 : (.code yX11_bid cX11_bid 3 (Option.some FieldType.int) : Cond) ∈ TBL := tb_at 1278 (by decide +kernel) (by decide +kernel)
theorem q_1279 : (.methodLink RX11 90 yX11_orderError : Cond) ∈ TBL := tb_at 1279 (by decide +kernel) (by decide +kernel)
theorem q_1281 : (.instanceMethod yX11_orderError : Cond) ∈ TBL := tb_at 1281 (by decide +kernel) (by decide +kernel)
theorem q_1282 : (.code yX11_orderError cX11_orderError 4 (Option.some FieldType.int) : Cond) ∈ TBL := tb_at 1282 (by decide +kernel) (by decide +kernel)
theorem q_1283 : (.methodLink RX11 93 yX11_places : Cond) ∈ TBL := tb_at 1283 (by decide +kernel) (by decide +kernel)
theorem q_1285 : (.instanceMethod yX11_places : Cond) ∈ TBL := tb_at 1285 (by decide +kernel) (by decide +kernel)
theorem q_1286 : (.code yX11_places cX11_places 5 (Option.some FieldType.int) : Cond) ∈ TBL := tb_at 1286 (by decide +kernel) (by decide +kernel)
theorem q_1287 : (.methodLink RX11 87 yX11_setsO : Cond) ∈ TBL := tb_at 1287 (by decide +kernel) (by decide +kernel)
theorem q_1289 : (.instanceMethod yX11_setsO : Cond) ∈ TBL := tb_at 1289 (by decide +kernel) (by decide +kernel)
theorem q_1290 : (.code yX11_setsO cX11_setsO 4 Option.none : Cond) ∈ TBL := tb_at 1290 (by decide +kernel) (by decide +kernel)
theorem q_1291 : (.methodLink RX11 33 yX11_ofO : Cond) ∈ TBL := tb_at 1291 (by decide +kernel) (by decide +kernel)
theorem q_1293 : (.instanceMethod yX11_ofO : Cond) ∈ TBL := tb_at 1293 (by decide +kernel) (by decide +kernel)
theorem q_1294 : (.code yX11_ofO cX11_ofO 3 (Option.some FieldType.int) : Cond) ∈ TBL := tb_at 1294 (by decide +kernel) (by decide +kernel)
theorem q_1295 : (.methodLink RL 113 yX11_order : Cond) ∈ TBL := tb_at 1295 (by decide +kernel) (by decide +kernel)
theorem q_1296 : (.instanceMethod yX11_order : Cond) ∈ TBL := tb_at 1296 (by decide +kernel) (by decide +kernel)
theorem q_1297 : (.selects RX11 yX11_order yX11_order : Cond) ∈ TBL := tb_at 1297 (by decide +kernel) (by decide +kernel)
theorem q_1298 : (.code yX11_order cX11_order 4 (Option.some FieldType.int) : Cond) ∈ TBL := tb_at 1298 (by decide +kernel) (by decide +kernel)
theorem q_1299 : (.methodLink RL 117 yX11_cancel : Cond) ∈ TBL := tb_at 1299 (by decide +kernel) (by decide +kernel)
theorem q_1300 : (.instanceMethod yX11_cancel : Cond) ∈ TBL := tb_at 1300 (by decide +kernel) (by decide +kernel)
theorem q_1301 : (.selects RX11 yX11_cancel yX11_cancel : Cond) ∈ TBL := tb_at 1301 (by decide +kernel) (by decide +kernel)
theorem q_1302 : (.code yX11_cancel cX11_cancel 2 (Option.some FieldType.int) : Cond) ∈ TBL := tb_at 1302 (by decide +kernel) (by decide +kernel)
theorem q_1303 : (.methodLink RX11 99 yX11_find : Cond) ∈ TBL := tb_at 1303 (by decide +kernel) (by decide +kernel)
theorem q_1305 : (.instanceMethod yX11_find : Cond) ∈ TBL := tb_at 1305 (by decide +kernel) (by decide +kernel)
theorem q_1306 : (.code yX11_find cX11_find 3 (Option.some FieldType.int) : Cond) ∈ TBL := tb_at 1306 (by decide +kernel) (by decide +kernel)
theorem q_1307 : (.methodLink RX11 102 yX11_cancels : Cond) ∈ TBL := tb_at 1307 (by decide +kernel) (by decide +kernel)
theorem q_1309 : (.instanceMethod yX11_cancels : Cond) ∈ TBL := tb_at 1309 (by decide +kernel) (by decide +kernel)
theorem q_1310 : (.code yX11_cancels cX11_cancels 3 (Option.some FieldType.int) : Cond) ∈ TBL := tb_at 1310 (by decide +kernel) (by decide +kernel)
theorem q_1311 : (.methodLink RX11 96 yX11_removes : Cond) ∈ TBL := tb_at 1311 (by decide +kernel) (by decide +kernel)
theorem q_1313 : (.instanceMethod yX11_removes : Cond) ∈ TBL := tb_at 1313 (by decide +kernel) (by decide +kernel)
theorem q_1314 : (.code yX11_removes cX11_removes 3 Option.none : Cond) ∈ TBL := tb_at 1314 (by decide +kernel) (by decide +kernel)
theorem q_1315 : (.methodLink RL 121 yX11_clear : Cond) ∈ TBL := tb_at 1315 (by decide +kernel) (by decide +kernel)
theorem q_1316 : (.instanceMethod yX11_clear : Cond) ∈ TBL := tb_at 1316 (by decide +kernel) (by decide +kernel)
theorem q_1317 : (.selects RX11 yX11_clear yX11_clear : Cond) ∈ TBL := tb_at 1317 (by decide +kernel) (by decide +kernel)
theorem q_1318 : (.code yX11_clear cX11_clear 1 (Option.some FieldType.int) : Cond) ∈ TBL := tb_at 1318 (by decide +kernel) (by decide +kernel)
theorem q_1319 : (.methodLink RX11 176 yX11_clearError : Cond) ∈ TBL := tb_at 1319 (by decide +kernel) (by decide +kernel)
theorem q_1321 : (.instanceMethod yX11_clearError : Cond) ∈ TBL := tb_at 1321 (by decide +kernel) (by decide +kernel)
theorem q_1322 : (.code yX11_clearError cX11_clearError 1 (Option.some FieldType.int) : Cond) ∈ TBL := tb_at 1322 (by decide +kernel) (by decide +kernel)
theorem q_1323 : (.methodLink RX11 179 yX11_clears : Cond) ∈ TBL := tb_at 1323 (by decide +kernel) (by decide +kernel)
theorem q_1325 : (.instanceMethod yX11_clears : Cond) ∈ TBL := tb_at 1325 (by decide +kernel) (by decide +kernel)
theorem q_1326 : (.code yX11_clears cX11_clears 3 (Option.some FieldType.int) : Cond) ∈ TBL := tb_at 1326 (by decide +kernel) (by decide +kernel)
theorem q_1327 : (.methodLink RX11 157 yX11_finds : Cond) ∈ TBL := tb_at 1327 (by decide +kernel) (by decide +kernel)
theorem q_1329 : (.instanceMethod yX11_finds : Cond) ∈ TBL := tb_at 1329 (by decide +kernel) (by decide +kernel)
theorem q_1330 : (.code yX11_finds cX11_finds 3 Option.none : Cond) ∈ TBL := tb_at 1330 (by decide +kernel) (by decide +kernel)
theorem q_1331 : (.methodLink RX11 124 yX11_volumeAt : Cond) ∈ TBL := tb_at 1331 (by decide +kernel) (by decide +kernel)
theorem q_1333 : (.instanceMethod yX11_volumeAt : Cond) ∈ TBL := tb_at 1333 (by decide +kernel) (by decide +kernel)
theorem q_1334 : (.code yX11_volumeAt cX11_volumeAt 4 (Option.some FieldType.int) : Cond) ∈ TBL := tb_at 1334 (by decide +kernel) (by decide +kernel)
theorem q_1335 : (.methodLink RX11 112 yX11_unitsAt : Cond) ∈ TBL := tb_at 1335 (by decide +kernel) (by decide +kernel)
theorem q_1337 : (.instanceMethod yX11_unitsAt : Cond) ∈ TBL := tb_at 1337 (by decide +kernel) (by decide +kernel)
theorem q_1338 : (.code yX11_unitsAt cX11_unitsAt 5 (Option.some FieldType.int) : Cond) ∈ TBL := tb_at 1338 (by decide +kernel) (by decide +kernel)
theorem q_1339 : (.methodLink RX11 105 yX11_sideOf : Cond) ∈ TBL := tb_at 1339 (by decide +kernel) (by decide +kernel)
theorem q_1341 : (.instanceMethod yX11_sideOf : Cond) ∈ TBL := tb_at 1341 (by decide +kernel) (by decide +kernel)
theorem q_1342 : (.code yX11_sideOf cX11_sideOf 2 (Option.some FieldType.int) : Cond) ∈ TBL := tb_at 1342 (by decide +kernel) (by decide +kernel)
theorem q_1343 : (.methodLink RX11 108 yX11_isGood : Cond) ∈ TBL := tb_at 1343 (by decide +kernel) (by decide +kernel)
theorem q_1345 : (.instanceMethod yX11_isGood : Cond) ∈ TBL := tb_at 1345 (by decide +kernel) (by decide +kernel)
theorem q_1346 : (.code yX11_isGood cX11_isGood 3 (Option.some FieldType.boolean) : Cond) ∈ TBL := tb_at 1346 (by decide +kernel) (by decide +kernel)
theorem q_1347 : (.methodLink RX11 160 yX11_trades : Cond) ∈ TBL := tb_at 1347 (by decide +kernel) (by decide +kernel)
theorem q_1349 : (.instanceMethod yX11_trades : Cond) ∈ TBL := tb_at 1349 (by decide +kernel) (by decide +kernel)
theorem q_1350 : (.code yX11_trades cX11_trades 11 Option.none : Cond) ∈ TBL := tb_at 1350 (by decide +kernel) (by decide +kernel)
theorem q_1351 : (.methodLink RX11 148 yX11_orderAt : Cond) ∈ TBL := tb_at 1351 (by decide +kernel) (by decide +kernel)
theorem q_1353 : (.instanceMethod yX11_orderAt : Cond) ∈ TBL := tb_at 1353 (by decide +kernel) (by decide +kernel)
theorem q_1354 : (.code yX11_orderAt cX11_orderAt 4 (Option.some FieldType.int) : Cond) ∈ TBL := tb_at 1354 (by decide +kernel) (by decide +kernel)
theorem q_1355 : (.methodLink RX11 145 yX11_placeOf : Cond) ∈ TBL := tb_at 1355 (by decide +kernel) (by decide +kernel)
theorem q_1357 : (.instanceMethod yX11_placeOf : Cond) ∈ TBL := tb_at 1357 (by decide +kernel) (by decide +kernel)
theorem q_1358 : (.code yX11_placeOf cX11_placeOf 4 (Option.some FieldType.int) : Cond) ∈ TBL := tb_at 1358 (by decide +kernel) (by decide +kernel)
theorem q_1359 : (.methodLink RX11 130 yX11_isAhead : Cond) ∈ TBL := tb_at 1359 (by decide +kernel) (by decide +kernel)
theorem q_1361 : (.instanceMethod yX11_isAhead : Cond) ∈ TBL := tb_at 1361 (by decide +kernel) (by decide +kernel)
theorem q_1362 : (.code yX11_isAhead cX11_isAhead 6 (Option.some FieldType.boolean) : Cond) ∈ TBL := tb_at 1362 (by decide +kernel) (by decide +kernel)
theorem q_1363 : (.methodLink RX11 133 yX11_fillOf : Cond) ∈ TBL := tb_at 1363 (by decide +kernel) (by decide +kernel)
theorem q_1365 : (.instanceMethod yX11_fillOf : Cond) ∈ TBL := tb_at 1365 (by decide +kernel) (by decide +kernel)
theorem q_1366 : (.code yX11_fillOf cX11_fillOf 4 (Option.some FieldType.int) : Cond) ∈ TBL := tb_at 1366 (by decide +kernel) (by decide +kernel)
theorem q_1367 : (.methodLink RX11 151 yX11_adds : Cond) ∈ TBL := tb_at 1367 (by decide +kernel) (by decide +kernel)
theorem q_1369 : (.instanceMethod yX11_adds : Cond) ∈ TBL := tb_at 1369 (by decide +kernel) (by decide +kernel)
theorem q_1370 : (.code yX11_adds cX11_adds 5 Option.none : Cond) ∈ TBL := tb_at 1370 (by decide +kernel) (by decide +kernel)
theorem q_1371 : (.methodLink RX11 163 yX11_surplusNow : Cond) ∈ TBL := tb_at 1371 (by decide +kernel) (by decide +kernel)
theorem q_1373 : (.instanceMethod yX11_surplusNow : Cond) ∈ TBL := tb_at 1373 (by decide +kernel) (by decide +kernel)
theorem q_1374 : (.code yX11_surplusNow cX11_surplusNow 3 (Option.some FieldType.int) : Cond) ∈ TBL := tb_at 1374 (by decide +kernel) (by decide +kernel)
theorem q_1375 : (.methodLink RX11 139 yX11_gainsOf : Cond) ∈ TBL := tb_at 1375 (by decide +kernel) (by decide +kernel)
theorem q_1377 : (.instanceMethod yX11_gainsOf : Cond) ∈ TBL := tb_at 1377 (by decide +kernel) (by decide +kernel)
theorem q_1378 : (.code yX11_gainsOf cX11_gainsOf 4 (Option.some FieldType.int) : Cond) ∈ TBL := tb_at 1378 (by decide +kernel) (by decide +kernel)
theorem q_1379 : (.methodLink RX11 136 yX11_gainOf : Cond) ∈ TBL := tb_at 1379 (by decide +kernel) (by decide +kernel)
theorem q_1381 : (.instanceMethod yX11_gainOf : Cond) ∈ TBL := tb_at 1381 (by decide +kernel) (by decide +kernel)
theorem q_1382 : (.code yX11_gainOf cX11_gainOf 3 (Option.some FieldType.int) : Cond) ∈ TBL := tb_at 1382 (by decide +kernel) (by decide +kernel)
theorem q_1383 : (.methodLink RX11 167 yX11_settles : Cond) ∈ TBL := tb_at 1383 (by decide +kernel) (by decide +kernel)
theorem q_1385 : (.instanceMethod yX11_settles : Cond) ∈ TBL := tb_at 1385 (by decide +kernel) (by decide +kernel)
theorem q_1386 : (.code yX11_settles cX11_settles 4 Option.none : Cond) ∈ TBL := tb_at 1386 (by decide +kernel) (by decide +kernel)
theorem q_1387 : (.methodLink RX11 170 yX11_learns : Cond) ∈ TBL := tb_at 1387 (by decide +kernel) (by decide +kernel)
theorem q_1389 : (.instanceMethod yX11_learns : Cond) ∈ TBL := tb_at 1389 (by decide +kernel) (by decide +kernel)
theorem q_1390 : (.code yX11_learns cX11_learns 3 Option.none : Cond) ∈ TBL := tb_at 1390 (by decide +kernel) (by decide +kernel)
theorem q_1391 : (.methodLink RX11 154 yX11_outcome : Cond) ∈ TBL := tb_at 1391 (by decide +kernel) (by decide +kernel)
theorem q_1393 : (.instanceMethod yX11_outcome : Cond) ∈ TBL := tb_at 1393 (by decide +kernel) (by decide +kernel)
theorem q_1394 : (.code yX11_outcome cX11_outcome 6 (Option.some FieldType.int) : Cond) ∈ TBL := tb_at 1394 (by decide +kernel) (by decide +kernel)
theorem q_1395 : (.methodLink RX11 173 yX11_empties : Cond) ∈ TBL := tb_at 1395 (by decide +kernel) (by decide +kernel)
theorem q_1397 : (.instanceMethod yX11_empties : Cond) ∈ TBL := tb_at 1397 (by decide +kernel) (by decide +kernel)
theorem q_1398 : (.code yX11_empties cX11_empties 2 Option.none : Cond) ∈ TBL := tb_at 1398 (by decide +kernel) (by decide +kernel)
theorem q_1399 : (.methodLink RL 124 yX11_trader : Cond) ∈ TBL := tb_at 1399 (by decide +kernel) (by decide +kernel)
theorem q_1400 : (.instanceMethod yX11_trader : Cond) ∈ TBL := tb_at 1400 (by decide +kernel) (by decide +kernel)
theorem q_1401 : (.selects RX11 yX11_trader yX11_trader : Cond) ∈ TBL := tb_at 1401 (by decide +kernel) (by decide +kernel)
theorem q_1402 : (.code yX11_trader cX11_trader 3 (Option.some FieldType.int) : Cond) ∈ TBL := tb_at 1402 (by decide +kernel) (by decide +kernel)
theorem q_1403 : (.methodLink RX11 186 yX11_tellsTrader : Cond) ∈ TBL := tb_at 1403 (by decide +kernel) (by decide +kernel)
theorem q_1405 : (.instanceMethod yX11_tellsTrader : Cond) ∈ TBL := tb_at 1405 (by decide +kernel) (by decide +kernel)
theorem q_1406 : (.code yX11_tellsTrader cX11_tellsTrader 3 (Option.some FieldType.int) : Cond) ∈ TBL := tb_at 1406 (by decide +kernel) (by decide +kernel)
theorem q_1407 : (.methodLink RX11 182 yX11_ordersOf : Cond) ∈ TBL := tb_at 1407 (by decide +kernel) (by decide +kernel)
theorem q_1409 : (.instanceMethod yX11_ordersOf : Cond) ∈ TBL := tb_at 1409 (by decide +kernel) (by decide +kernel)
theorem q_1410 : (.code yX11_ordersOf cX11_ordersOf 5 (Option.some FieldType.int) : Cond) ∈ TBL := tb_at 1410 (by decide +kernel) (by decide +kernel)
theorem q_1411 : (.methodLink RL 127 yX11_orderOf : Cond) ∈ TBL := tb_at 1411 (by decide +kernel) (by decide +kernel)
theorem q_1412 : (.instanceMethod yX11_orderOf : Cond) ∈ TBL := tb_at 1412 (by decide +kernel) (by decide +kernel)
theorem q_1413 : (.selects RX11 yX11_orderOf yX11_orderOf : Cond) ∈ TBL := tb_at 1413 (by decide +kernel) (by decide +kernel)
theorem q_1414 : (.code yX11_orderOf cX11_orderOf 3 (Option.some FieldType.int) : Cond) ∈ TBL := tb_at 1414 (by decide +kernel) (by decide +kernel)
theorem q_1415 : (.methodLink RX11 189 yX11_tellsOrder : Cond) ∈ TBL := tb_at 1415 (by decide +kernel) (by decide +kernel)
theorem q_1417 : (.instanceMethod yX11_tellsOrder : Cond) ∈ TBL := tb_at 1417 (by decide +kernel) (by decide +kernel)
theorem q_1418 : (.code yX11_tellsOrder cX11_tellsOrder 3 (Option.some FieldType.int) : Cond) ∈ TBL := tb_at 1418 (by decide +kernel) (by decide +kernel)
theorem q_1419 : (.methodLink RL 130 yX11_trade : Cond) ∈ TBL := tb_at 1419 (by decide +kernel) (by decide +kernel)
theorem q_1420 : (.instanceMethod yX11_trade : Cond) ∈ TBL := tb_at 1420 (by decide +kernel) (by decide +kernel)
theorem q_1421 : (.selects RX11 yX11_trade yX11_trade : Cond) ∈ TBL := tb_at 1421 (by decide +kernel) (by decide +kernel)
theorem q_1422 : (.code yX11_trade cX11_trade 3 (Option.some FieldType.int) : Cond) ∈ TBL := tb_at 1422 (by decide +kernel) (by decide +kernel)
theorem q_1423 : (.methodLink RL 133 yX11_at : Cond) ∈ TBL := tb_at 1423 (by decide +kernel) (by decide +kernel)
theorem q_1424 : (.instanceMethod yX11_at : Cond) ∈ TBL := tb_at 1424 (by decide +kernel) (by decide +kernel)
theorem q_1425 : (.selects RX11 yX11_at yX11_at : Cond) ∈ TBL := tb_at 1425 (by decide +kernel) (by decide +kernel)
theorem q_1426 : (.code yX11_at cX11_at 3 (Option.some FieldType.int) : Cond) ∈ TBL := tb_at 1426 (by decide +kernel) (by decide +kernel)
theorem q_1427 : (.methodLink RL 136 yX11_now : Cond) ∈ TBL := tb_at 1427 (by decide +kernel) (by decide +kernel)
theorem q_1428 : (.instanceMethod yX11_now : Cond) ∈ TBL := tb_at 1428 (by decide +kernel) (by decide +kernel)
theorem q_1429 : (.selects RX11 yX11_now yX11_now : Cond) ∈ TBL := tb_at 1429 (by decide +kernel) (by decide +kernel)
theorem q_1430 : (.code yX11_now cX11_now 2 (Option.some FieldType.int) : Cond) ∈ TBL := tb_at 1430 (by decide +kernel) (by decide +kernel)
theorem q_1431 : (.methodLink RX11 198 yX11_tellsNow : Cond) ∈ TBL := tb_at 1431 (by decide +kernel) (by decide +kernel)
theorem q_1433 : (.instanceMethod yX11_tellsNow : Cond) ∈ TBL := tb_at 1433 (by decide +kernel) (by decide +kernel)
theorem q_1434 : (.code yX11_tellsNow cX11_tellsNow 2 (Option.some FieldType.int) : Cond) ∈ TBL := tb_at 1434 (by decide +kernel) (by decide +kernel)
theorem q_1435 : (.methodLink RX11 192 yX11_greatest : Cond) ∈ TBL := tb_at 1435 (by decide +kernel) (by decide +kernel)
theorem q_1437 : (.instanceMethod yX11_greatest : Cond) ∈ TBL := tb_at 1437 (by decide +kernel) (by decide +kernel)
theorem q_1438 : (.code yX11_greatest cX11_greatest 7 (Option.some FieldType.int) : Cond) ∈ TBL := tb_at 1438 (by decide +kernel) (by decide +kernel)
theorem q_1439 : (.methodLink RX11 142 yX11_unitsBy : Cond) ∈ TBL := tb_at 1439 (by decide +kernel) (by decide +kernel)
theorem q_1441 : (.instanceMethod yX11_unitsBy : Cond) ∈ TBL := tb_at 1441 (by decide +kernel) (by decide +kernel)
theorem q_1442 : (.code yX11_unitsBy cX11_unitsBy 5 (Option.some FieldType.int) : Cond) ∈ TBL := tb_at 1442 (by decide +kernel) (by decide +kernel)
theorem q_1443 : (.methodLink RX11 195 yX11_share : Cond) ∈ TBL := tb_at 1443 (by decide +kernel) (by decide +kernel)
theorem q_1444 : (.static yX11_share : Cond) ∈ TBL := tb_at 1444 (by decide +kernel) (by decide +kernel)
theorem q_1445 : (.code yX11_share cX11_share 2 (Option.some FieldType.int) : Cond) ∈ TBL := tb_at 1445 (by decide +kernel) (by decide +kernel)
theorem q_1446 : (.methodLink RL 139 yX11_whole : Cond) ∈ TBL := tb_at 1446 (by decide +kernel) (by decide +kernel)
theorem q_1447 : (.instanceMethod yX11_whole : Cond) ∈ TBL := tb_at 1447 (by decide +kernel) (by decide +kernel)
theorem q_1448 : (.selects RX11 yX11_whole yX11_whole : Cond) ∈ TBL := tb_at 1448 (by decide +kernel) (by decide +kernel)
theorem q_1449 : (.code yX11_whole cX11_whole 2 (Option.some FieldType.int) : Cond) ∈ TBL := tb_at 1449 (by decide +kernel) (by decide +kernel)
theorem q_1450 : (.methodLink RX11 204 yX11_tellsWhole : Cond) ∈ TBL := tb_at 1450 (by decide +kernel) (by decide +kernel)
theorem q_1452 : (.instanceMethod yX11_tellsWhole : Cond) ∈ TBL := tb_at 1452 (by decide +kernel) (by decide +kernel)
theorem q_1453 : (.code yX11_tellsWhole cX11_tellsWhole 2 (Option.some FieldType.int) : Cond) ∈ TBL := tb_at 1453 (by decide +kernel) (by decide +kernel)
theorem q_1454 : (.methodLink RL 142 yX11_filled : Cond) ∈ TBL := tb_at 1454 (by decide +kernel) (by decide +kernel)
theorem q_1455 : (.instanceMethod yX11_filled : Cond) ∈ TBL := tb_at 1455 (by decide +kernel) (by decide +kernel)
theorem q_1456 : (.selects RX11 yX11_filled yX11_filled : Cond) ∈ TBL := tb_at 1456 (by decide +kernel) (by decide +kernel)
theorem q_1457 : (.code yX11_filled cX11_filled 2 (Option.some FieldType.int) : Cond) ∈ TBL := tb_at 1457 (by decide +kernel) (by decide +kernel)
theorem q_1458 : (.methodLink RX11 207 yX11_filledOf : Cond) ∈ TBL := tb_at 1458 (by decide +kernel) (by decide +kernel)
theorem q_1460 : (.instanceMethod yX11_filledOf : Cond) ∈ TBL := tb_at 1460 (by decide +kernel) (by decide +kernel)
theorem q_1461 : (.code yX11_filledOf cX11_filledOf 2 (Option.some FieldType.int) : Cond) ∈ TBL := tb_at 1461 (by decide +kernel) (by decide +kernel)
theorem q_1462 : (.methodLink RL 145 yX11_reason : Cond) ∈ TBL := tb_at 1462 (by decide +kernel) (by decide +kernel)
theorem q_1463 : (.instanceMethod yX11_reason : Cond) ∈ TBL := tb_at 1463 (by decide +kernel) (by decide +kernel)
theorem q_1464 : (.selects RX11 yX11_reason yX11_reason : Cond) ∈ TBL := tb_at 1464 (by decide +kernel) (by decide +kernel)
theorem q_1465 : (.code yX11_reason cX11_reason 3 (Option.some FieldType.int) : Cond) ∈ TBL := tb_at 1465 (by decide +kernel) (by decide +kernel)
theorem q_1466 : (.methodLink RL 148 yX11_gainWith : Cond) ∈ TBL := tb_at 1466 (by decide +kernel) (by decide +kernel)
theorem q_1467 : (.instanceMethod yX11_gainWith : Cond) ∈ TBL := tb_at 1467 (by decide +kernel) (by decide +kernel)
theorem q_1468 : (.selects RX11 yX11_gainWith yX11_gainWith : Cond) ∈ TBL := tb_at 1468 (by decide +kernel) (by decide +kernel)
theorem q_1469 : (.code yX11_gainWith cX11_gainWith 3 (Option.some FieldType.int) : Cond) ∈ TBL := tb_at 1469 (by decide +kernel) (by decide +kernel)
theorem q_1470 : (.methodLink RX11 210 yX11_gainBy : Cond) ∈ TBL := tb_at 1470 (by decide +kernel) (by decide +kernel)
theorem q_1472 : (.instanceMethod yX11_gainBy : Cond) ∈ TBL := tb_at 1472 (by decide +kernel) (by decide +kernel)
theorem q_1473 : (.code yX11_gainBy cX11_gainBy 4 (Option.some FieldType.int) : Cond) ∈ TBL := tb_at 1473 (by decide +kernel) (by decide +kernel)
theorem q_1474 : (.methodLink RL 151 yX11_bestShade : Cond) ∈ TBL := tb_at 1474 (by decide +kernel) (by decide +kernel)
theorem q_1475 : (.instanceMethod yX11_bestShade : Cond) ∈ TBL := tb_at 1475 (by decide +kernel) (by decide +kernel)
theorem q_1476 : (.selects RX11 yX11_bestShade yX11_bestShade : Cond) ∈ TBL := tb_at 1476 (by decide +kernel) (by decide +kernel)
theorem q_1477 : (.code yX11_bestShade cX11_bestShade 6 (Option.some FieldType.int) : Cond) ∈ TBL := tb_at 1477 (by decide +kernel) (by decide +kernel)
theorem q_1478 : (.methodLink RL 154 yX11_bestSplit : Cond) ∈ TBL := tb_at 1478 (by decide +kernel) (by decide +kernel)
theorem q_1479 : (.instanceMethod yX11_bestSplit : Cond) ∈ TBL := tb_at 1479 (by decide +kernel) (by decide +kernel)
theorem q_1480 : (.selects RX11 yX11_bestSplit yX11_bestSplit : Cond) ∈ TBL := tb_at 1480 (by decide +kernel) (by decide +kernel)
theorem q_1481 : (.code yX11_bestSplit cX11_bestSplit 7 (Option.some FieldType.int) : Cond) ∈ TBL := tb_at 1481 (by decide +kernel) (by decide +kernel)
theorem q_1482 : (.methodLink RL 157 yX11_goneIn : Cond) ∈ TBL := tb_at 1482 (by decide +kernel) (by decide +kernel)
theorem q_1483 : (.instanceMethod yX11_goneIn : Cond) ∈ TBL := tb_at 1483 (by decide +kernel) (by decide +kernel)
theorem q_1484 : (.selects RX11 yX11_goneIn yX11_goneIn : Cond) ∈ TBL := tb_at 1484 (by decide +kernel) (by decide +kernel)
theorem q_1485 : (.code yX11_goneIn cX11_goneIn 3 (Option.some FieldType.int) : Cond) ∈ TBL := tb_at 1485 (by decide +kernel) (by decide +kernel)
theorem q_1486 : (.methodLink RL 160 yX11_type : Cond) ∈ TBL := tb_at 1486 (by decide +kernel) (by decide +kernel)
theorem q_1487 : (.instanceMethod yX11_type : Cond) ∈ TBL := tb_at 1487 (by decide +kernel) (by decide +kernel)
theorem q_1488 : (.selects RX11 yX11_type yX11_type : Cond) ∈ TBL := tb_at 1488 (by decide +kernel) (by decide +kernel)
theorem q_1489 : (.code yX11_type cX11_type 2 (Option.some FieldType.int) : Cond) ∈ TBL := tb_at 1489 (by decide +kernel) (by decide +kernel)
theorem q_1490 : (.methodLink RL 164 yX11_clearCommands : Cond) ∈ TBL := tb_at 1490 (by decide +kernel) (by decide +kernel)
theorem q_1491 : (.instanceMethod yX11_clearCommands : Cond) ∈ TBL := tb_at 1491 (by decide +kernel) (by decide +kernel)
theorem q_1492 : (.selects RX11 yX11_clearCommands yX11_clearCommands : Cond) ∈ TBL := tb_at 1492 (by decide +kernel) (by decide +kernel)
theorem q_1493 : (.code yX11_clearCommands cX11_clearCommands 2 (Option.some FieldType.int) : Cond) ∈ TBL := tb_at 1493 (by decide +kernel) (by decide +kernel)
theorem q_1494 : (.methodLink RL 168 yX11_runCommands : Cond) ∈ TBL := tb_at 1494 (by decide +kernel) (by decide +kernel)
theorem q_1495 : (.instanceMethod yX11_runCommands : Cond) ∈ TBL := tb_at 1495 (by decide +kernel) (by decide +kernel)
theorem q_1496 : (.selects RX11 yX11_runCommands yX11_runCommands : Cond) ∈ TBL := tb_at 1496 (by decide +kernel) (by decide +kernel)
theorem q_1497 : (.code yX11_runCommands cX11_runCommands 4 (Option.some FieldType.int) : Cond) ∈ TBL := tb_at 1497 (by decide +kernel) (by decide +kernel)
theorem q_1498 : (.methodLink RX11 245 yX11_faultOf : Cond) ∈ TBL := tb_at 1498 (by decide +kernel) (by decide +kernel)
theorem q_1500 : (.instanceMethod yX11_faultOf : Cond) ∈ TBL := tb_at 1500 (by decide +kernel) (by decide +kernel)
theorem q_1501 : (.code yX11_faultOf cX11_faultOf 1 (Option.some FieldType.int) : Cond) ∈ TBL := tb_at 1501 (by decide +kernel) (by decide +kernel)
theorem q_1502 : (.methodLink RX11 223 yX11_passesSpaces : Cond) ∈ TBL := tb_at 1502 (by decide +kernel) (by decide +kernel)
theorem q_1504 : (.instanceMethod yX11_passesSpaces : Cond) ∈ TBL := tb_at 1504 (by decide +kernel) (by decide +kernel)
theorem q_1505 : (.code yX11_passesSpaces cX11_passesSpaces 1 Option.none : Cond) ∈ TBL := tb_at 1505 (by decide +kernel) (by decide +kernel)
theorem q_1506 : (.methodLink RX11 216 yX11_isHere : Cond) ∈ TBL := tb_at 1506 (by decide +kernel) (by decide +kernel)
theorem q_1508 : (.instanceMethod yX11_isHere : Cond) ∈ TBL := tb_at 1508 (by decide +kernel) (by decide +kernel)
theorem q_1509 : (.code yX11_isHere cX11_isHere 3 (Option.some FieldType.boolean) : Cond) ∈ TBL := tb_at 1509 (by decide +kernel) (by decide +kernel)
theorem q_1510 : (.methodLink RX11 241 yX11_passesCommand : Cond) ∈ TBL := tb_at 1510 (by decide +kernel) (by decide +kernel)
theorem q_1512 : (.instanceMethod yX11_passesCommand : Cond) ∈ TBL := tb_at 1512 (by decide +kernel) (by decide +kernel)
theorem q_1513 : (.code yX11_passesCommand cX11_passesCommand 3 (Option.some FieldType.boolean) : Cond) ∈ TBL := tb_at 1513 (by decide +kernel) (by decide +kernel)
theorem q_1514 : (.methodLink RX11 226 yX11_readsWord : Cond) ∈ TBL := tb_at 1514 (by decide +kernel) (by decide +kernel)
theorem q_1516 : (.instanceMethod yX11_readsWord : Cond) ∈ TBL := tb_at 1516 (by decide +kernel) (by decide +kernel)
theorem q_1517 : (.code yX11_readsWord cX11_readsWord 3 (Option.some FieldType.int) : Cond) ∈ TBL := tb_at 1517 (by decide +kernel) (by decide +kernel)
theorem q_1518 : (.methodLink RX11 229 yX11_kindOf : Cond) ∈ TBL := tb_at 1518 (by decide +kernel) (by decide +kernel)
theorem q_1519 : (.static yX11_kindOf : Cond) ∈ TBL := tb_at 1519 (by decide +kernel) (by decide +kernel)
theorem q_1520 : (.code yX11_kindOf cX11_kindOf 1 (Option.some FieldType.int) : Cond) ∈ TBL := tb_at 1520 (by decide +kernel) (by decide +kernel)
theorem q_1521 : (.methodLink RX11 219 yX11_codeOf : Cond) ∈ TBL := tb_at 1521 (by decide +kernel) (by decide +kernel)
theorem q_1522 : (.static yX11_codeOf : Cond) ∈ TBL := tb_at 1522 (by decide +kernel) (by decide +kernel)
theorem q_1523 : (.code yX11_codeOf cX11_codeOf 7 (Option.some FieldType.int) : Cond) ∈ TBL := tb_at 1523 (by decide +kernel) (by decide +kernel)
theorem q_1524 : (.methodLink RX11 235 yX11_manyOf : Cond) ∈ TBL := tb_at 1524 (by decide +kernel) (by decide +kernel)
theorem q_1525 : (.static yX11_manyOf : Cond) ∈ TBL := tb_at 1525 (by decide +kernel) (by decide +kernel)
theorem q_1526 : (.code yX11_manyOf cX11_manyOf 1 (Option.some FieldType.int) : Cond) ∈ TBL := tb_at 1526 (by decide +kernel) (by decide +kernel)
theorem q_1527 : (.methodLink RX11 238 yX11_passesNumber : Cond) ∈ TBL := tb_at 1527 (by decide +kernel) (by decide +kernel)
theorem q_1529 : (.instanceMethod yX11_passesNumber : Cond) ∈ TBL := tb_at 1529 (by decide +kernel) (by decide +kernel)
theorem q_1530 : (.code yX11_passesNumber cX11_passesNumber 4 (Option.some FieldType.boolean) : Cond) ∈ TBL := tb_at 1530 (by decide +kernel) (by decide +kernel)
theorem q_1531 : (.methodLink RX11 248 yX11_does : Cond) ∈ TBL := tb_at 1531 (by decide +kernel) (by decide +kernel)
theorem q_1533 : (.instanceMethod yX11_does : Cond) ∈ TBL := tb_at 1533 (by decide +kernel) (by decide +kernel)
theorem q_1534 : (.code yX11_does cX11_does 3 (Option.some FieldType.int) : Cond) ∈ TBL := tb_at 1534 (by decide +kernel) (by decide +kernel)
theorem q_1535 : (.methodLink RL 176 yX11_digest : Cond) ∈ TBL := tb_at 1535 (by decide +kernel) (by decide +kernel)
theorem q_1536 : (.instanceMethod yX11_digest : Cond) ∈ TBL := tb_at 1536 (by decide +kernel) (by decide +kernel)
theorem q_1537 : (.selects RX11 yX11_digest yX11_digest : Cond) ∈ TBL := tb_at 1537 (by decide +kernel) (by decide +kernel)
theorem q_1538 : (.code yX11_digest cX11_digest 4 (Option.some FieldType.long) : Cond) ∈ TBL := tb_at 1538 (by decide +kernel) (by decide +kernel)
theorem q_1539 : (.constantLong RX11 253 1352096 : Cond) ∈ TBL := tb_at 1539 (by decide +kernel) (by decide +kernel)
theorem q_1540 : (.constantLong RX11 251 31 : Cond) ∈ TBL := tb_at 1540 (by decide +kernel) (by decide +kernel)
theorem q_1541 : (.methodLink RX11 255 yX11_digestTrader : Cond) ∈ TBL := tb_at 1541 (by decide +kernel) (by decide +kernel)
theorem q_1543 : (.instanceMethod yX11_digestTrader : Cond) ∈ TBL := tb_at 1543 (by decide +kernel) (by decide +kernel)
theorem q_1544 : (.code yX11_digestTrader cX11_digestTrader 7 (Option.some FieldType.long) : Cond) ∈ TBL := tb_at 1544 (by decide +kernel) (by decide +kernel)
theorem q_1545 : (.methodLink RX11 259 yX11_digestOrder : Cond) ∈ TBL := tb_at 1545 (by decide +kernel) (by decide +kernel)
theorem q_1547 : (.instanceMethod yX11_digestOrder : Cond) ∈ TBL := tb_at 1547 (by decide +kernel) (by decide +kernel)
theorem q_1548 : (.code yX11_digestOrder cX11_digestOrder 7 (Option.some FieldType.long) : Cond) ∈ TBL := tb_at 1548 (by decide +kernel) (by decide +kernel)
theorem q_1549 : (.arrayClass FieldType.long : Cond) ∈ TBL := tb_at 1549 (by decide +kernel) (by decide +kernel)
theorem q_1550 : (.sameMethod "java/lang/Throwable" "java/lang/Throwable" "fillInStackTrace" "(I)Ljava/lang/Throwable;" : Cond) ∈ TBL := tb_at 1550 (by decide +kernel) (by decide +kernel)
theorem q_1551 : (.fieldLink RX9 47 RX9 "letters" "Ljava/lang/String;" : Cond) ∈ TBL := tb_at 1551 (by decide +kernel) (by decide +kernel)
theorem q_1552 : (.fieldLink RJ0 9 RJ0 "value" "[B" : Cond) ∈ TBL := tb_at 1552 (by decide +kernel) (by decide +kernel)
theorem q_1553 : (.fieldLink RJ0 15 RJ0 "coder" "B" : Cond) ∈ TBL := tb_at 1553 (by decide +kernel) (by decide +kernel)
theorem q_1555 : (.fieldLink RJx29ce0 7 RJx29ce0 "ordinal" "I" : Cond) ∈ TBL := tb_at 1555 (by decide +kernel) (by decide +kernel)
theorem tuX1 : ∀ w ∈ u_ws RX1 TX1 11, w ∈ TBL := by
  intro w h
  obtain ⟨k, hk, rfl⟩ := List.mem_map.mp h
  have hk := List.mem_range.mp hk
  match k, hk with
  | 0, _ => exact tb_at 262 (by decide +kernel) (by decide +kernel)
  | 1, _ => exact tb_at 264 (by decide +kernel) (by decide +kernel)
  | 2, _ => exact tb_at 266 (by decide +kernel) (by decide +kernel)
  | 3, _ => exact tb_at 268 (by decide +kernel) (by decide +kernel)
  | 4, _ => exact tb_at 270 (by decide +kernel) (by decide +kernel)
  | 5, _ => exact tb_at 272 (by decide +kernel) (by decide +kernel)
  | 6, _ => exact tb_at 274 (by decide +kernel) (by decide +kernel)
  | 7, _ => exact tb_at 276 (by decide +kernel) (by decide +kernel)
  | 8, _ => exact tb_at 278 (by decide +kernel) (by decide +kernel)
  | 9, _ => exact tb_at 280 (by decide +kernel) (by decide +kernel)
  | 10, _ => exact tb_at 282 (by decide +kernel) (by decide +kernel)
  | k + 11, h => exact absurd h (by omega)
theorem tuX2 : ∀ w ∈ u_ws RX2 TX2 12, w ∈ TBL := by
  intro w h
  obtain ⟨k, hk, rfl⟩ := List.mem_map.mp h
  have hk := List.mem_range.mp hk
  match k, hk with
  | 0, _ => exact tb_at 312 (by decide +kernel) (by decide +kernel)
  | 1, _ => exact tb_at 314 (by decide +kernel) (by decide +kernel)
  | 2, _ => exact tb_at 316 (by decide +kernel) (by decide +kernel)
  | 3, _ => exact tb_at 318 (by decide +kernel) (by decide +kernel)
  | 4, _ => exact tb_at 320 (by decide +kernel) (by decide +kernel)
  | 5, _ => exact tb_at 322 (by decide +kernel) (by decide +kernel)
  | 6, _ => exact tb_at 324 (by decide +kernel) (by decide +kernel)
  | 7, _ => exact tb_at 326 (by decide +kernel) (by decide +kernel)
  | 8, _ => exact tb_at 328 (by decide +kernel) (by decide +kernel)
  | 9, _ => exact tb_at 330 (by decide +kernel) (by decide +kernel)
  | 10, _ => exact tb_at 332 (by decide +kernel) (by decide +kernel)
  | 11, _ => exact tb_at 334 (by decide +kernel) (by decide +kernel)
  | k + 12, h => exact absurd h (by omega)
theorem tuX3 : ∀ w ∈ u_ws RX3 TX3 6, w ∈ TBL := by
  intro w h
  obtain ⟨k, hk, rfl⟩ := List.mem_map.mp h
  have hk := List.mem_range.mp hk
  match k, hk with
  | 0, _ => exact tb_at 374 (by decide +kernel) (by decide +kernel)
  | 1, _ => exact tb_at 376 (by decide +kernel) (by decide +kernel)
  | 2, _ => exact tb_at 378 (by decide +kernel) (by decide +kernel)
  | 3, _ => exact tb_at 380 (by decide +kernel) (by decide +kernel)
  | 4, _ => exact tb_at 382 (by decide +kernel) (by decide +kernel)
  | 5, _ => exact tb_at 384 (by decide +kernel) (by decide +kernel)
  | k + 6, h => exact absurd h (by omega)
theorem tuX4 : ∀ w ∈ u_ws RX4 TX4 7, w ∈ TBL := by
  intro w h
  obtain ⟨k, hk, rfl⟩ := List.mem_map.mp h
  have hk := List.mem_range.mp hk
  match k, hk with
  | 0, _ => exact tb_at 200 (by decide +kernel) (by decide +kernel)
  | 1, _ => exact tb_at 202 (by decide +kernel) (by decide +kernel)
  | 2, _ => exact tb_at 204 (by decide +kernel) (by decide +kernel)
  | 3, _ => exact tb_at 206 (by decide +kernel) (by decide +kernel)
  | 4, _ => exact tb_at 208 (by decide +kernel) (by decide +kernel)
  | 5, _ => exact tb_at 210 (by decide +kernel) (by decide +kernel)
  | 6, _ => exact tb_at 212 (by decide +kernel) (by decide +kernel)
  | k + 7, h => exact absurd h (by omega)
theorem tuX5 : ∀ w ∈ u_ws RX5 TX5 1, w ∈ TBL := by
  intro w h
  obtain ⟨k, hk, rfl⟩ := List.mem_map.mp h
  have hk := List.mem_range.mp hk
  match k, hk with
  | 0, _ => exact tb_at 133 (by decide +kernel) (by decide +kernel)
  | k + 1, h => exact absurd h (by omega)
theorem tuX6 : ∀ w ∈ u_ws RX6 TX6 8, w ∈ TBL := by
  intro w h
  obtain ⟨k, hk, rfl⟩ := List.mem_map.mp h
  have hk := List.mem_range.mp hk
  match k, hk with
  | 0, _ => exact tb_at 156 (by decide +kernel) (by decide +kernel)
  | 1, _ => exact tb_at 158 (by decide +kernel) (by decide +kernel)
  | 2, _ => exact tb_at 160 (by decide +kernel) (by decide +kernel)
  | 3, _ => exact tb_at 162 (by decide +kernel) (by decide +kernel)
  | 4, _ => exact tb_at 164 (by decide +kernel) (by decide +kernel)
  | 5, _ => exact tb_at 166 (by decide +kernel) (by decide +kernel)
  | 6, _ => exact tb_at 168 (by decide +kernel) (by decide +kernel)
  | 7, _ => exact tb_at 170 (by decide +kernel) (by decide +kernel)
  | k + 8, h => exact absurd h (by omega)
theorem tuX7 : ∀ w ∈ u_ws RX7 TX7 6, w ∈ TBL := by
  intro w h
  obtain ⟨k, hk, rfl⟩ := List.mem_map.mp h
  have hk := List.mem_range.mp hk
  match k, hk with
  | 0, _ => exact tb_at 232 (by decide +kernel) (by decide +kernel)
  | 1, _ => exact tb_at 234 (by decide +kernel) (by decide +kernel)
  | 2, _ => exact tb_at 236 (by decide +kernel) (by decide +kernel)
  | 3, _ => exact tb_at 238 (by decide +kernel) (by decide +kernel)
  | 4, _ => exact tb_at 240 (by decide +kernel) (by decide +kernel)
  | 5, _ => exact tb_at 242 (by decide +kernel) (by decide +kernel)
  | k + 6, h => exact absurd h (by omega)
theorem tuX8 : ∀ w ∈ u_ws RX8 TX8 3, w ∈ TBL := by
  intro w h
  obtain ⟨k, hk, rfl⟩ := List.mem_map.mp h
  have hk := List.mem_range.mp hk
  match k, hk with
  | 0, _ => exact tb_at 350 (by decide +kernel) (by decide +kernel)
  | 1, _ => exact tb_at 352 (by decide +kernel) (by decide +kernel)
  | 2, _ => exact tb_at 354 (by decide +kernel) (by decide +kernel)
  | k + 3, h => exact absurd h (by omega)
theorem tuX10 : ∀ w ∈ u_ws RX10 TX10 5, w ∈ TBL := by
  intro w h
  obtain ⟨k, hk, rfl⟩ := List.mem_map.mp h
  have hk := List.mem_range.mp hk
  match k, hk with
  | 0, _ => exact tb_at 392 (by decide +kernel) (by decide +kernel)
  | 1, _ => exact tb_at 394 (by decide +kernel) (by decide +kernel)
  | 2, _ => exact tb_at 396 (by decide +kernel) (by decide +kernel)
  | 3, _ => exact tb_at 398 (by decide +kernel) (by decide +kernel)
  | 4, _ => exact tb_at 400 (by decide +kernel) (by decide +kernel)
  | k + 5, h => exact absurd h (by omega)
theorem tuX11 : ∀ w ∈ u_ws RX11 TX11 14, w ∈ TBL := by
  intro w h
  obtain ⟨k, hk, rfl⟩ := List.mem_map.mp h
  have hk := List.mem_range.mp hk
  match k, hk with
  | 0, _ => exact tb_at 1164 (by decide +kernel) (by decide +kernel)
  | 1, _ => exact tb_at 1166 (by decide +kernel) (by decide +kernel)
  | 2, _ => exact tb_at 1168 (by decide +kernel) (by decide +kernel)
  | 3, _ => exact tb_at 1170 (by decide +kernel) (by decide +kernel)
  | 4, _ => exact tb_at 1172 (by decide +kernel) (by decide +kernel)
  | 5, _ => exact tb_at 1174 (by decide +kernel) (by decide +kernel)
  | 6, _ => exact tb_at 1176 (by decide +kernel) (by decide +kernel)
  | 7, _ => exact tb_at 1178 (by decide +kernel) (by decide +kernel)
  | 8, _ => exact tb_at 1180 (by decide +kernel) (by decide +kernel)
  | 9, _ => exact tb_at 1182 (by decide +kernel) (by decide +kernel)
  | 10, _ => exact tb_at 1184 (by decide +kernel) (by decide +kernel)
  | 11, _ => exact tb_at 1186 (by decide +kernel) (by decide +kernel)
  | 12, _ => exact tb_at 1188 (by decide +kernel) (by decide +kernel)
  | 13, _ => exact tb_at 1190 (by decide +kernel) (by decide +kernel)
  | k + 14, h => exact absurd h (by omega)
