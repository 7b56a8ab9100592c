def RX0 : String := "PacketStores$Row"
def TX0 : u_T := fun k => match k with
  | 0 => ("PacketStores$Row", "origins", "[I", true)
  | 1 => ("PacketStores$Row", "amounts", "[I", true)
  | 2 => ("PacketStores$Row", "births", "[I", true)
  | 3 => ("PacketStores$Row", "packets", "I", false)
  | _ => ("PacketStores$Row", "total", "I", false)
def tyX0 : Nat → FieldType := fun k => match k with
  | 0 => .array .int
  | 1 => .array .int
  | 2 => .array .int
  | 3 => .int
  | _ => .int
theorem nmX0 : ∀ a, a < 5 → ∀ b, b < 5 → a ≠ b → (TX0 a).2.1 ≠ (TX0 b).2.1 := by decide +kernel
theorem tyX0_ok : ∀ k, k < 5 → parseFieldDescriptor (TX0 k).2.2.1 = some (tyX0 k) := by decide +kernel
def RX1 : String := "PacketStores"
def TX1 : u_T := fun k => match k with
  | 0 => ("PacketStores", "stocks", "[LPacketStores$Row;", true)
  | 1 => ("PacketStores", "rates", "[I", true)
  | 2 => ("PacketStores", "madeKinds", "[I", true)
  | 3 => ("PacketStores", "placeColumns", "[I", true)
  | 4 => ("PacketStores", "placeRows", "[I", true)
  | 5 => ("PacketStores", "acceptedKinds", "[I", true)
  | 6 => ("PacketStores", "aboard", "[LPacketStores$Row;", true)
  | 7 => ("PacketStores", "wagonKinds", "[I", true)
  | 8 => ("PacketStores", "wagonRooms", "[I", true)
  | 9 => ("PacketStores", "produced", "[I", true)
  | 10 => ("PacketStores", "delivered", "[I", true)
  | 11 => ("PacketStores", "dumped", "[I", true)
  | 12 => ("PacketStores", "time", "I", false)
  | 13 => ("PacketStores", "money", "I", false)
  | 14 => ("PacketStores", "earned", "I", false)
  | _ => ("PacketStores", "spent", "I", false)
def tyX1 : Nat → FieldType := fun k => match k with
  | 0 => .array (.object "PacketStores$Row")
  | 1 => .array .int
  | 2 => .array .int
  | 3 => .array .int
  | 4 => .array .int
  | 5 => .array .int
  | 6 => .array (.object "PacketStores$Row")
  | 7 => .array .int
  | 8 => .array .int
  | 9 => .array .int
  | 10 => .array .int
  | 11 => .array .int
  | 12 => .int
  | 13 => .int
  | 14 => .int
  | _ => .int
theorem nmX1 : ∀ a, a < 16 → ∀ b, b < 16 → a ≠ b → (TX1 a).2.1 ≠ (TX1 b).2.1 := by decide +kernel
theorem tyX1_ok : ∀ k, k < 16 → parseFieldDescriptor (TX1 k).2.2.1 = some (tyX1 k) := by decide +kernel
def RX2 : String := "PacketStoresModel"
def TX2 : u_T := fun k => match k with
  | 0 => ("PacketStoresModel", "thrown", "I", false)
  | 1 => ("PacketStoresModel", "time", "I", false)
  | 2 => ("PacketStoresModel", "money", "I", false)
  | 3 => ("PacketStoresModel", "earned", "I", false)
  | 4 => ("PacketStoresModel", "spent", "I", false)
  | 5 => ("PacketStoresModel", "columns", "[I", true)
  | 6 => ("PacketStoresModel", "lines", "[I", true)
  | 7 => ("PacketStoresModel", "accepts", "[I", true)
  | 8 => ("PacketStoresModel", "rates", "[I", true)
  | 9 => ("PacketStoresModel", "made", "[I", true)
  | 10 => ("PacketStoresModel", "wagonKind", "[I", true)
  | 11 => ("PacketStoresModel", "wagonRoom", "[I", true)
  | 12 => ("PacketStoresModel", "size", "[I", true)
  | 13 => ("PacketStoresModel", "origins", "[I", true)
  | 14 => ("PacketStoresModel", "born", "[I", true)
  | 15 => ("PacketStoresModel", "produced", "[I", true)
  | 16 => ("PacketStoresModel", "delivered", "[I", true)
  | _ => ("PacketStoresModel", "dumped", "[I", true)
def tyX2 : Nat → FieldType := fun k => match k with
  | 0 => .int
  | 1 => .int
  | 2 => .int
  | 3 => .int
  | 4 => .int
  | 5 => .array .int
  | 6 => .array .int
  | 7 => .array .int
  | 8 => .array .int
  | 9 => .array .int
  | 10 => .array .int
  | 11 => .array .int
  | 12 => .array .int
  | 13 => .array .int
  | 14 => .array .int
  | 15 => .array .int
  | 16 => .array .int
  | _ => .array .int
theorem nmX2 : ∀ a, a < 18 → ∀ b, b < 18 → a ≠ b → (TX2 a).2.1 ≠ (TX2 b).2.1 := by decide +kernel
theorem tyX2_ok : ∀ k, k < 18 → parseFieldDescriptor (TX2 k).2.2.1 = some (tyX2 k) := by decide +kernel
def RL : String := "PacketStoresLaw"
def yX1_init : MethodName := ⟨RX1, "<init>", "()V"⟩
def yX0_init : MethodName := ⟨RX0, "<init>", "()V"⟩
def yX1_spend : MethodName := ⟨RX1, "spend", "(I)Z"⟩
def yX1_packet : MethodName := ⟨RX1, "packet", "(IIII)I"⟩
def yX1_rowAt : MethodName := ⟨RX1, "rowAt", "(II)LPacketStores$Row;"⟩
def yX1_isStation : MethodName := ⟨RX1, "isStation", "(I)Z"⟩
def yX1_isKind : MethodName := ⟨RX1, "isKind", "(I)Z"⟩
def yX1_stockIndex : MethodName := ⟨RX1, "stockIndex", "(II)I"⟩
def yX0_look : MethodName := ⟨RX0, "look", "(II)I"⟩
def yX1_units : MethodName := ⟨RX1, "units", "(II)I"⟩
def yX0_total : MethodName := ⟨RX0, "total", "()I"⟩
def yX1_count : MethodName := ⟨RX1, "count", "(II)I"⟩
def yX1_unitsInStocks : MethodName := ⟨RX1, "unitsInStocks", "(I)I"⟩
def yX1_unitsInWagons : MethodName := ⟨RX1, "unitsInWagons", "(I)I"⟩
def yX1_sum : MethodName := ⟨RX1, "sum", "(I)I"⟩
def yL_place : MethodName := ⟨RL, "place", "(LPacketStores;III)I"⟩
def yX1_place : MethodName := ⟨RX1, "place", "(III)V"⟩
def yX1_checkStation : MethodName := ⟨RX1, "checkStation", "(I)V"⟩
def yX1_checkRange : MethodName := ⟨RX1, "checkRange", "(II)V"⟩
def yL_rate : MethodName := ⟨RL, "rate", "(LPacketStores;III)I"⟩
def yX1_rate : MethodName := ⟨RX1, "rate", "(III)V"⟩
def yX1_checkKind : MethodName := ⟨RX1, "checkKind", "(I)V"⟩
def yL_accept : MethodName := ⟨RL, "accept", "(LPacketStores;II)I"⟩
def yX1_accept : MethodName := ⟨RX1, "accept", "(II)V"⟩
def yL_make : MethodName := ⟨RL, "make", "(LPacketStores;III)I"⟩
def yX1_make : MethodName := ⟨RX1, "make", "(III)V"⟩
def yL_wagon : MethodName := ⟨RL, "wagon", "(LPacketStores;III)I"⟩
def yX1_wagon : MethodName := ⟨RX1, "wagon", "(III)V"⟩
def yX1_checkWagon : MethodName := ⟨RX1, "checkWagon", "(I)V"⟩
def yL_pass : MethodName := ⟨RL, "pass", "(LPacketStores;I[J)I"⟩
def yX1_pass : MethodName := ⟨RX1, "pass", "(I)I"⟩
def yX1_produceEverywhere : MethodName := ⟨RX1, "produceEverywhere", "()V"⟩
def yX1_produce : MethodName := ⟨RX1, "produce", "(III)V"⟩
def yX0_putBehind : MethodName := ⟨RX0, "putBehind", "(III)V"⟩
def yX0_lastIs : MethodName := ⟨RX0, "lastIs", "(II)Z"⟩
def yL_load : MethodName := ⟨RL, "load", "(LPacketStores;III[J)I"⟩
def yX1_load : MethodName := ⟨RX1, "load", "(III)I"⟩
def yX1_checkNotBelowZero : MethodName := ⟨RX1, "checkNotBelowZero", "(I)V"⟩
def yX0_moveTo : MethodName := ⟨RX0, "moveTo", "(LPacketStores$Row;II)I"⟩
def yX0_takeFromFirst : MethodName := ⟨RX0, "takeFromFirst", "(I)V"⟩
def yX0_dropFirst : MethodName := ⟨RX0, "dropFirst", "()V"⟩
def yL_unload : MethodName := ⟨RL, "unload", "(LPacketStores;III[J)I"⟩
def yX1_unload : MethodName := ⟨RX1, "unload", "(III)I"⟩
def yX1_deliverFrom : MethodName := ⟨RX1, "deliverFrom", "(LPacketStores$Row;III)I"⟩
def yX1_payOfOne : MethodName := ⟨RX1, "payOfOne", "(III)I"⟩
def yX1_earn : MethodName := ⟨RX1, "earn", "(I)V"⟩
def yL_pour : MethodName := ⟨RL, "pour", "(LPacketStores;II)I"⟩
def yX1_pour : MethodName := ⟨RX1, "pour", "(II)V"⟩
def yX1_checkFellows : MethodName := ⟨RX1, "checkFellows", "(II)V"⟩
def yL_part : MethodName := ⟨RL, "part", "(LPacketStores;III)I"⟩
def yX1_part : MethodName := ⟨RX1, "part", "(III)V"⟩
def yX0_moveAllBehind : MethodName := ⟨RX0, "moveAllBehind", "(ILPacketStores$Row;)V"⟩
def yL_dump : MethodName := ⟨RL, "dump", "(LPacketStores;I[J)I"⟩
def yX1_dump : MethodName := ⟨RX1, "dump", "(I)I"⟩
def yX0_clear : MethodName := ⟨RX0, "clear", "()V"⟩
def yX2_init : MethodName := ⟨RX2, "<init>", "()V"⟩
def yX2_thrown : MethodName := ⟨RX2, "thrown", "()I"⟩
def yX2_place : MethodName := ⟨RX2, "place", "(III)V"⟩
def yX2_in : MethodName := ⟨RX2, "in", "(II)Z"⟩
def yX2_rate : MethodName := ⟨RX2, "rate", "(III)V"⟩
def yX2_accept : MethodName := ⟨RX2, "accept", "(II)V"⟩
def yX2_make : MethodName := ⟨RX2, "make", "(III)V"⟩
def yX2_wagon : MethodName := ⟨RX2, "wagon", "(III)V"⟩
def yX2_pass : MethodName := ⟨RX2, "pass", "(I)I"⟩
def yX2_produce : MethodName := ⟨RX2, "produce", "(II)V"⟩
def yX2_put : MethodName := ⟨RX2, "put", "(III)V"⟩
def yX2_packets : MethodName := ⟨RX2, "packets", "(I)I"⟩
def yX2_isFirst : MethodName := ⟨RX2, "isFirst", "(II)Z"⟩
def yX2_load : MethodName := ⟨RX2, "load", "(III)I"⟩
def yX2_move : MethodName := ⟨RX2, "move", "(II)V"⟩
def yX2_drop : MethodName := ⟨RX2, "drop", "(I)V"⟩
def yX2_unload : MethodName := ⟨RX2, "unload", "(III)I"⟩
def yX2_pay : MethodName := ⟨RX2, "pay", "(III)V"⟩
def yX2_apart : MethodName := ⟨RX2, "apart", "(II)I"⟩
def yX2_pour : MethodName := ⟨RX2, "pour", "(II)V"⟩
def yX2_part : MethodName := ⟨RX2, "part", "(III)V"⟩
def yX2_dump : MethodName := ⟨RX2, "dump", "(I)I"⟩
def yX2_spend : MethodName := ⟨RX2, "spend", "(I)Z"⟩
def yX2_packet : MethodName := ⟨RX2, "packet", "(IIII)I"⟩
def yX2_rowOf : MethodName := ⟨RX2, "rowOf", "(II)I"⟩
def yX2_units : MethodName := ⟨RX2, "units", "(II)I"⟩
def yX2_count : MethodName := ⟨RX2, "count", "(II)I"⟩
def yX2_sum : MethodName := ⟨RX2, "sum", "(I)I"⟩
def yL_law : MethodName := ⟨RL, "law", "([I)Z"⟩
abbrev cX1_init : ByteArray := prog_1_method_1_code
abbrev cX0_init : ByteArray := prog_2_method_1_code
abbrev cX1_spend : ByteArray := prog_1_method_13_code
abbrev cX1_packet : ByteArray := prog_1_method_14_code
abbrev cX1_rowAt : ByteArray := prog_1_method_25_code
abbrev cX1_isStation : ByteArray := prog_1_method_28_code
abbrev cX1_isKind : ByteArray := prog_1_method_29_code
abbrev cX1_stockIndex : ByteArray := prog_1_method_27_code
abbrev cX0_look : ByteArray := prog_2_method_3_code
abbrev cX1_units : ByteArray := prog_1_method_15_code
abbrev cX0_total : ByteArray := prog_2_method_2_code
abbrev cX1_count : ByteArray := prog_1_method_16_code
abbrev cX1_unitsInStocks : ByteArray := prog_1_method_23_code
abbrev cX1_unitsInWagons : ByteArray := prog_1_method_24_code
abbrev cX1_sum : ByteArray := prog_1_method_17_code
abbrev cL_place : ByteArray := method_3_code
abbrev cX1_place : ByteArray := prog_1_method_2_code
abbrev cX1_checkStation : ByteArray := prog_1_method_30_code
abbrev cX1_checkRange : ByteArray := prog_1_method_33_code
abbrev cL_rate : ByteArray := method_4_code
abbrev cX1_rate : ByteArray := prog_1_method_3_code
abbrev cX1_checkKind : ByteArray := prog_1_method_31_code
abbrev cL_accept : ByteArray := method_5_code
abbrev cX1_accept : ByteArray := prog_1_method_4_code
abbrev cL_make : ByteArray := method_6_code
abbrev cX1_make : ByteArray := prog_1_method_5_code
abbrev cL_wagon : ByteArray := method_7_code
abbrev cX1_wagon : ByteArray := prog_1_method_6_code
abbrev cX1_checkWagon : ByteArray := prog_1_method_32_code
abbrev cL_pass : ByteArray := method_8_code
abbrev cX1_pass : ByteArray := prog_1_method_7_code
abbrev cX1_produceEverywhere : ByteArray := prog_1_method_18_code
abbrev cX1_produce : ByteArray := prog_1_method_19_code
abbrev cX0_putBehind : ByteArray := prog_2_method_5_code
abbrev cX0_lastIs : ByteArray := prog_2_method_6_code
abbrev cL_load : ByteArray := method_9_code
abbrev cX1_load : ByteArray := prog_1_method_8_code
abbrev cX1_checkNotBelowZero : ByteArray := prog_1_method_34_code
abbrev cX0_moveTo : ByteArray := prog_2_method_9_code
abbrev cX0_takeFromFirst : ByteArray := prog_2_method_7_code
abbrev cX0_dropFirst : ByteArray := prog_2_method_8_code
abbrev cL_unload : ByteArray := method_10_code
abbrev cX1_unload : ByteArray := prog_1_method_9_code
abbrev cX1_deliverFrom : ByteArray := prog_1_method_20_code
abbrev cX1_payOfOne : ByteArray := prog_1_method_21_code
abbrev cX1_earn : ByteArray := prog_1_method_22_code
abbrev cL_pour : ByteArray := method_11_code
abbrev cX1_pour : ByteArray := prog_1_method_10_code
abbrev cX1_checkFellows : ByteArray := prog_1_method_26_code
abbrev cL_part : ByteArray := method_12_code
abbrev cX1_part : ByteArray := prog_1_method_11_code
abbrev cX0_moveAllBehind : ByteArray := prog_2_method_10_code
abbrev cL_dump : ByteArray := method_13_code
abbrev cX1_dump : ByteArray := prog_1_method_12_code
abbrev cX0_clear : ByteArray := prog_2_method_4_code
abbrev cX2_init : ByteArray := prog_4_method_1_code
abbrev cX2_thrown : ByteArray := prog_4_method_2_code
abbrev cX2_place : ByteArray := prog_4_method_10_code
abbrev cX2_in : ByteArray := prog_4_method_3_code
abbrev cX2_rate : ByteArray := prog_4_method_11_code
abbrev cX2_accept : ByteArray := prog_4_method_12_code
abbrev cX2_make : ByteArray := prog_4_method_13_code
abbrev cX2_wagon : ByteArray := prog_4_method_14_code
abbrev cX2_pass : ByteArray := prog_4_method_15_code
abbrev cX2_produce : ByteArray := prog_4_method_9_code
abbrev cX2_put : ByteArray := prog_4_method_6_code
abbrev cX2_packets : ByteArray := prog_4_method_4_code
abbrev cX2_isFirst : ByteArray := prog_4_method_5_code
abbrev cX2_load : ByteArray := prog_4_method_16_code
abbrev cX2_move : ByteArray := prog_4_method_7_code
abbrev cX2_drop : ByteArray := prog_4_method_8_code
abbrev cX2_unload : ByteArray := prog_4_method_19_code
abbrev cX2_pay : ByteArray := prog_4_method_18_code
abbrev cX2_apart : ByteArray := prog_4_method_17_code
abbrev cX2_pour : ByteArray := prog_4_method_20_code
abbrev cX2_part : ByteArray := prog_4_method_21_code
abbrev cX2_dump : ByteArray := prog_4_method_22_code
abbrev cX2_spend : ByteArray := prog_4_method_23_code
abbrev cX2_packet : ByteArray := prog_4_method_25_code
abbrev cX2_rowOf : ByteArray := prog_4_method_24_code
abbrev cX2_units : ByteArray := prog_4_method_26_code
abbrev cX2_count : ByteArray := prog_4_method_27_code
abbrev cX2_sum : ByteArray := prog_4_method_28_code
abbrev cL_law : ByteArray := code
abbrev vwCl : List vw_C := [(RX0, TX0, 5), (RX1, TX1, 16), (RX2, TX2, 18)]
def cw0 : List Cond := [Cond.initialized RL, Cond.initialized RX1, Cond.initialized RX0, Cond.initialized RX2, Cond.initialized "java/lang/Throwable", Cond.initialized "java/lang/Exception", Cond.initialized "java/lang/RuntimeException", Cond.initialized "java/lang/IndexOutOfBoundsException", Cond.initialized "java/lang/IllegalArgumentException", Cond.initialized "java/lang/Math", Cond.classLink RL 8 RX1, Cond.instantiable RX1 16, Cond.methodLink RL 50 yX1_init, Cond.instanceMethod yX1_init, Cond.code yX1_init cX1_init 2 none, Cond.methodLink RX1 3 objectInit, Cond.instanceMethod objectInit, Cond.code objectInit ⟨#[0xb1]⟩ 1 none, Cond.classLink RX1 9 RX0, Cond.instantiable RX0 5, Cond.instanceMethod yX0_init, Cond.code yX0_init cX0_init 1 none, Cond.methodLink RX0 3 objectInit, Cond.fieldLink RX0 9 RX0 "origins" "[I", Cond.fieldLink RX0 15 RX0 "amounts" "[I", Cond.fieldLink RX0 18 RX0 "births" "[I", Cond.fieldLink RX0 21 RX0 "packets" "I", Cond.fieldLink RX0 25 RX0 "total" "I", Cond.laysFinal RX0 RX0 "origins" "[I", Cond.laysFinal RX0 RX0 "amounts" "[I", Cond.laysFinal RX0 RX0 "births" "[I", Cond.lays RX0 RX0 "packets" "I", Cond.lays RX0 RX0 "total" "I", Cond.superclass RX0 "java/lang/Object", Cond.arrayClass .int, Cond.fieldLink RX1 11 RX1 "stocks" "[LPacketStores$Row;", Cond.fieldLink RX1 15 RX1 "rates" "[I", Cond.fieldLink RX1 19 RX1 "madeKinds" "[I", Cond.fieldLink RX1 22 RX1 "placeColumns" "[I", Cond.fieldLink RX1 25 RX1 "placeRows" "[I", Cond.fieldLink RX1 28 RX1 "acceptedKinds" "[I", Cond.fieldLink RX1 31 RX1 "aboard" "[LPacketStores$Row;", Cond.fieldLink RX1 34 RX1 "wagonKinds" "[I", Cond.fieldLink RX1 37 RX1 "wagonRooms" "[I", Cond.fieldLink RX1 40 RX1 "produced" "[I", Cond.fieldLink RX1 43 RX1 "delivered" "[I", Cond.fieldLink RX1 46 RX1 "dumped" "[I", Cond.fieldLink RX1 49 RX1 "time" "I", Cond.fieldLink RX1 53 RX1 "money" "I", Cond.fieldLink RX1 56 RX1 "earned" "I", Cond.fieldLink RX1 59 RX1 "spent" "I", Cond.laysFinal RX1 RX1 "stocks" "[LPacketStores$Row;", Cond.laysFinal RX1 RX1 "rates" "[I", Cond.laysFinal RX1 RX1 "madeKinds" "[I", Cond.laysFinal RX1 RX1 "placeColumns" "[I", Cond.laysFinal RX1 RX1 "placeRows" "[I", Cond.laysFinal RX1 RX1 "acceptedKinds" "[I", Cond.laysFinal RX1 RX1 "aboard" "[LPacketStores$Row;", Cond.laysFinal RX1 RX1 "wagonKinds" "[I", Cond.laysFinal RX1 RX1 "wagonRooms" "[I"]
def cw1 : List Cond := [Cond.laysFinal RX1 RX1 "produced" "[I", Cond.laysFinal RX1 RX1 "delivered" "[I", Cond.laysFinal RX1 RX1 "dumped" "[I", Cond.lays RX1 RX1 "time" "I", Cond.lays RX1 RX1 "money" "I", Cond.lays RX1 RX1 "earned" "I", Cond.lays RX1 RX1 "spent" "I", Cond.superclass RX1 "java/lang/Object", Cond.methodLink RL 97 yX1_spend, Cond.instanceMethod yX1_spend, Cond.selects RX1 yX1_spend yX1_spend, Cond.code yX1_spend cX1_spend 2 (some .boolean), Cond.constant RX1 100 (2000000000), Cond.methodLink RL 102 yX1_packet, Cond.instanceMethod yX1_packet, Cond.selects RX1 yX1_packet yX1_packet, Cond.code yX1_packet cX1_packet 6 (some .int), Cond.methodLink RX1 131 yX1_rowAt, Cond.instanceMethod yX1_rowAt, Cond.code yX1_rowAt cX1_rowAt 3 (some (.object "PacketStores$Row")), Cond.methodLink RX1 173 yX1_isStation, Cond.static yX1_isStation, Cond.code yX1_isStation cX1_isStation 1 (some .boolean), Cond.methodLink RX1 78 yX1_isKind, Cond.static yX1_isKind, Cond.code yX1_isKind cX1_isKind 1 (some .boolean), Cond.methodLink RX1 74 yX1_stockIndex, Cond.static yX1_stockIndex, Cond.code yX1_stockIndex cX1_stockIndex 2 (some .int), Cond.methodLink RX1 135 yX0_look, Cond.instanceMethod yX0_look, Cond.selects RX0 yX0_look yX0_look, Cond.code yX0_look cX0_look 3 (some .int), Cond.methodLink RL 107 yX1_units, Cond.instanceMethod yX1_units, Cond.selects RX1 yX1_units yX1_units, Cond.code yX1_units cX1_units 4 (some .int), Cond.methodLink RX1 92 yX0_total, Cond.instanceMethod yX0_total, Cond.selects RX0 yX0_total yX0_total, Cond.code yX0_total cX0_total 1 (some .int), Cond.methodLink RL 112 yX1_count, Cond.instanceMethod yX1_count, Cond.selects RX1 yX1_count yX1_count, Cond.code yX1_count cX1_count 3 (some .int), Cond.methodLink RX1 138 yX1_unitsInStocks, Cond.instanceMethod yX1_unitsInStocks, Cond.code yX1_unitsInStocks cX1_unitsInStocks 4 (some .int), Cond.methodLink RX1 142 yX1_unitsInWagons, Cond.instanceMethod yX1_unitsInWagons, Cond.code yX1_unitsInWagons cX1_unitsInWagons 4 (some .int), Cond.methodLink RL 116 yX1_sum, Cond.instanceMethod yX1_sum, Cond.selects RX1 yX1_sum yX1_sum, Cond.code yX1_sum cX1_sum 2 (some .int), Cond.methodLink RL 54 yL_place, Cond.static yL_place, Cond.codeWith yL_place cL_place 5 (some .int) [(0, 7, 10, 13), (0, 7, 14, 15)], Cond.classLink RL 13 "java/lang/IndexOutOfBoundsException", Cond.classLink RL 15 "java/lang/IllegalArgumentException"]
def cw2 : List Cond := [Cond.methodLink RL 7 yX1_place, Cond.instanceMethod yX1_place, Cond.selects RX1 yX1_place yX1_place, Cond.code yX1_place cX1_place 4 none, Cond.methodLink RX1 63 yX1_checkStation, Cond.static yX1_checkStation, Cond.code yX1_checkStation cX1_checkStation 1 none, Cond.classLink RX1 180 "java/lang/IndexOutOfBoundsException", Cond.instantiable "java/lang/IndexOutOfBoundsException" 6, Cond.selects "java/lang/IndexOutOfBoundsException" ⟨"java/lang/Throwable", "fillInStackTrace", "(I)Ljava/lang/Throwable;"⟩ ⟨"java/lang/Throwable", "fillInStackTrace", "(I)Ljava/lang/Throwable;"⟩, Cond.selects "java/lang/IndexOutOfBoundsException" ⟨"java/lang/Throwable", "fillInStackTrace", "()Ljava/lang/Throwable;"⟩ ⟨"java/lang/Throwable", "fillInStackTrace", "()Ljava/lang/Throwable;"⟩, Cond.lays "java/lang/IndexOutOfBoundsException" "java/lang/Throwable" "cause" "Ljava/lang/Throwable;", Cond.lays "java/lang/Throwable" "java/lang/Throwable" "cause" "Ljava/lang/Throwable;", Cond.lays "java/lang/IndexOutOfBoundsException" "java/lang/Throwable" "stackTrace" "[Ljava/lang/StackTraceElement;", Cond.lays "java/lang/Throwable" "java/lang/Throwable" "stackTrace" "[Ljava/lang/StackTraceElement;", Cond.lays "java/lang/IndexOutOfBoundsException" "java/lang/Throwable" "suppressedExceptions" "Ljava/util/List;", Cond.lays "java/lang/Throwable" "java/lang/Throwable" "suppressedExceptions" "Ljava/util/List;", Cond.lays "java/lang/IndexOutOfBoundsException" "java/lang/Throwable" "detailMessage" "Ljava/lang/String;", Cond.lays "java/lang/Throwable" "java/lang/Throwable" "detailMessage" "Ljava/lang/String;", Cond.lays "java/lang/IndexOutOfBoundsException" "java/lang/Throwable" "backtrace" "Ljava/lang/Object;", Cond.lays "java/lang/Throwable" "java/lang/Throwable" "backtrace" "Ljava/lang/Object;", Cond.fieldLink "java/lang/Throwable" 198 "java/lang/Throwable" "backtrace" "Ljava/lang/Object;", Cond.superclass "java/lang/Throwable" "java/lang/Object", Cond.instanceMethod ⟨"java/lang/Throwable", "<init>", "()V"⟩, Cond.code ⟨"java/lang/Throwable", "<init>", "()V"⟩ prog_11_method_1_code 1 none, Cond.methodLink "java/lang/Throwable" 1 objectInit, Cond.fieldLink "java/lang/Throwable" 13 "java/lang/Throwable" "UNASSIGNED_STACK" "[Ljava/lang/StackTraceElement;", Cond.fieldLink "java/lang/Throwable" 20 "java/lang/Throwable" "SUPPRESSED_SENTINEL" "Ljava/util/List;", Cond.methodLink "java/lang/Throwable" 27 ⟨"java/lang/Throwable", "fillInStackTrace", "()Ljava/lang/Throwable;"⟩, Cond.instanceMethod ⟨"java/lang/Throwable", "fillInStackTrace", "()Ljava/lang/Throwable;"⟩, Cond.sameMethod "java/lang/Throwable" "java/lang/Throwable" "fillInStackTrace" "()Ljava/lang/Throwable;", Cond.selects "java/lang/IllegalArgumentException" ⟨"java/lang/Throwable", "fillInStackTrace", "()Ljava/lang/Throwable;"⟩ ⟨"java/lang/Throwable", "fillInStackTrace", "()Ljava/lang/Throwable;"⟩, Cond.codeSync ⟨"java/lang/Throwable", "fillInStackTrace", "()Ljava/lang/Throwable;"⟩ prog_11_method_18_code 1 (some (.object "java/lang/Throwable")), Cond.methodLink "java/lang/Throwable" 202 ⟨"java/lang/Throwable", "fillInStackTrace", "(I)Ljava/lang/Throwable;"⟩, Cond.instanceMethod ⟨"java/lang/Throwable", "fillInStackTrace", "(I)Ljava/lang/Throwable;"⟩, Cond.instantiable "java/lang/Throwable" 6, Cond.native ⟨"java/lang/Throwable", "fillInStackTrace", "(I)Ljava/lang/Throwable;"⟩, Cond.methodLink RX1 184 ⟨"java/lang/IndexOutOfBoundsException", "<init>", "(Ljava/lang/String;)V"⟩, Cond.instanceMethod ⟨"java/lang/IndexOutOfBoundsException", "<init>", "(Ljava/lang/String;)V"⟩, Cond.code ⟨"java/lang/IndexOutOfBoundsException", "<init>", "(Ljava/lang/String;)V"⟩ prog_7_method_2_code 2 none, Cond.methodLink "java/lang/IndexOutOfBoundsException" 7 ⟨"java/lang/RuntimeException", "<init>", "(Ljava/lang/String;)V"⟩, Cond.instanceMethod ⟨"java/lang/RuntimeException", "<init>", "(Ljava/lang/String;)V"⟩, Cond.code ⟨"java/lang/RuntimeException", "<init>", "(Ljava/lang/String;)V"⟩ prog_9_method_2_code 2 none, Cond.methodLink "java/lang/RuntimeException" 7 ⟨"java/lang/Exception", "<init>", "(Ljava/lang/String;)V"⟩, Cond.instanceMethod ⟨"java/lang/Exception", "<init>", "(Ljava/lang/String;)V"⟩, Cond.code ⟨"java/lang/Exception", "<init>", "(Ljava/lang/String;)V"⟩ prog_5_method_2_code 2 none, Cond.methodLink "java/lang/Exception" 7 ⟨"java/lang/Throwable", "<init>", "(Ljava/lang/String;)V"⟩, Cond.instanceMethod ⟨"java/lang/Throwable", "<init>", "(Ljava/lang/String;)V"⟩, Cond.code ⟨"java/lang/Throwable", "<init>", "(Ljava/lang/String;)V"⟩ prog_11_method_2_code 2 none, Cond.fieldLink "java/lang/Throwable" 31 "java/lang/Throwable" "detailMessage" "Ljava/lang/String;", Cond.fieldLink "java/lang/Throwable" 7 "java/lang/Throwable" "cause" "Ljava/lang/Throwable;", Cond.fieldLink "java/lang/Throwable" 17 "java/lang/Throwable" "stackTrace" "[Ljava/lang/StackTraceElement;", Cond.fieldLink "java/lang/Throwable" 24 "java/lang/Throwable" "suppressedExceptions" "Ljava/util/List;", Cond.lays "java/lang/IndexOutOfBoundsException" "java/lang/Throwable" "depth" "I", Cond.superclass "java/lang/IndexOutOfBoundsException" "java/lang/RuntimeException", Cond.arrayClass .byte, Cond.methodLink RX1 67 yX1_checkRange, Cond.static yX1_checkRange, Cond.code yX1_checkRange cX1_checkRange 2 none, Cond.classLink RX1 82 "java/lang/IllegalArgumentException"]
def cw3 : List Cond := [Cond.instantiable "java/lang/IllegalArgumentException" 6, Cond.selects "java/lang/IllegalArgumentException" ⟨"java/lang/Throwable", "fillInStackTrace", "(I)Ljava/lang/Throwable;"⟩ ⟨"java/lang/Throwable", "fillInStackTrace", "(I)Ljava/lang/Throwable;"⟩, Cond.lays "java/lang/IllegalArgumentException" "java/lang/Throwable" "cause" "Ljava/lang/Throwable;", Cond.lays "java/lang/IllegalArgumentException" "java/lang/Throwable" "stackTrace" "[Ljava/lang/StackTraceElement;", Cond.lays "java/lang/IllegalArgumentException" "java/lang/Throwable" "suppressedExceptions" "Ljava/util/List;", Cond.lays "java/lang/IllegalArgumentException" "java/lang/Throwable" "detailMessage" "Ljava/lang/String;", Cond.lays "java/lang/IllegalArgumentException" "java/lang/Throwable" "backtrace" "Ljava/lang/Object;", Cond.methodLink RX1 86 ⟨"java/lang/IllegalArgumentException", "<init>", "(Ljava/lang/String;)V"⟩, Cond.instanceMethod ⟨"java/lang/IllegalArgumentException", "<init>", "(Ljava/lang/String;)V"⟩, Cond.code ⟨"java/lang/IllegalArgumentException", "<init>", "(Ljava/lang/String;)V"⟩ prog_6_method_2_code 2 none, Cond.methodLink "java/lang/IllegalArgumentException" 7 ⟨"java/lang/RuntimeException", "<init>", "(Ljava/lang/String;)V"⟩, Cond.lays "java/lang/IllegalArgumentException" "java/lang/Throwable" "depth" "I", Cond.superclass "java/lang/IllegalArgumentException" "java/lang/RuntimeException", Cond.methodLink RL 64 yL_rate, Cond.static yL_rate, Cond.codeWith yL_rate cL_rate 5 (some .int) [(0, 7, 10, 13), (0, 7, 14, 15)], Cond.methodLink RL 17 yX1_rate, Cond.instanceMethod yX1_rate, Cond.selects RX1 yX1_rate yX1_rate, Cond.code yX1_rate cX1_rate 4 none, Cond.methodLink RX1 71 yX1_checkKind, Cond.static yX1_checkKind, Cond.code yX1_checkKind cX1_checkKind 1 none, Cond.methodLink RL 67 yL_accept, Cond.static yL_accept, Cond.codeWith yL_accept cL_accept 4 (some .int) [(0, 6, 9, 13), (0, 6, 12, 15)], Cond.methodLink RL 20 yX1_accept, Cond.instanceMethod yX1_accept, Cond.selects RX1 yX1_accept yX1_accept, Cond.code yX1_accept cX1_accept 3 none, Cond.methodLink RL 71 yL_make, Cond.static yL_make, Cond.codeWith yL_make cL_make 5 (some .int) [(0, 7, 10, 13), (0, 7, 14, 15)], Cond.methodLink RL 24 yX1_make, Cond.instanceMethod yX1_make, Cond.selects RX1 yX1_make yX1_make, Cond.code yX1_make cX1_make 4 none, Cond.methodLink RL 74 yL_wagon, Cond.static yL_wagon, Cond.codeWith yL_wagon cL_wagon 5 (some .int) [(0, 7, 10, 13), (0, 7, 14, 15)], Cond.methodLink RL 27 yX1_wagon, Cond.instanceMethod yX1_wagon, Cond.selects RX1 yX1_wagon yX1_wagon, Cond.code yX1_wagon cX1_wagon 5 none, Cond.methodLink RX1 89 yX1_checkWagon, Cond.static yX1_checkWagon, Cond.code yX1_checkWagon cX1_checkWagon 1 none, Cond.methodLink RL 77 yL_pass, Cond.static yL_pass, Cond.codeWith yL_pass cL_pass 4 (some .int) [(0, 9, 12, 15)], Cond.methodLink RL 30 yX1_pass, Cond.instanceMethod yX1_pass, Cond.selects RX1 yX1_pass yX1_pass, Cond.code yX1_pass cX1_pass 5 (some .int), Cond.methodLink RX1 103 yX1_produceEverywhere, Cond.instanceMethod yX1_produceEverywhere, Cond.code yX1_produceEverywhere cX1_produceEverywhere 3 none, Cond.methodLink RX1 145 yX1_produce, Cond.instanceMethod yX1_produce, Cond.code yX1_produce cX1_produce 7 none]
def cw4 : List Cond := [Cond.methodLink RX1 149 Lib.Math.min.name, Cond.static Lib.Math.min.name, Cond.code Lib.Math.min.name Lib.Math.min.code 2 (some .int), Cond.methodLink RX1 154 yX0_putBehind, Cond.instanceMethod yX0_putBehind, Cond.selects RX0 yX0_putBehind yX0_putBehind, Cond.code yX0_putBehind cX0_putBehind 4 none, Cond.methodLink RX0 28 yX0_lastIs, Cond.instanceMethod yX0_lastIs, Cond.code yX0_lastIs cX0_lastIs 4 (some .boolean), Cond.methodLink RL 81 yL_load, Cond.static yL_load, Cond.codeWith yL_load cL_load 6 (some .int) [(0, 12, 15, 13), (0, 12, 19, 15)], Cond.methodLink RL 34 yX1_load, Cond.instanceMethod yX1_load, Cond.selects RX1 yX1_load yX1_load, Cond.code yX1_load cX1_load 5 (some .int), Cond.methodLink RX1 106 yX1_checkNotBelowZero, Cond.static yX1_checkNotBelowZero, Cond.code yX1_checkNotBelowZero cX1_checkNotBelowZero 1 none, Cond.methodLink RX1 109 yX0_moveTo, Cond.instanceMethod yX0_moveTo, Cond.selects RX0 yX0_moveTo yX0_moveTo, Cond.code yX0_moveTo cX0_moveTo 8 (some .int), Cond.methodLink RX0 35 Lib.Math.min.name, Cond.methodLink RX0 41 yX0_putBehind, Cond.methodLink RX0 45 yX0_takeFromFirst, Cond.instanceMethod yX0_takeFromFirst, Cond.selects RX0 yX0_takeFromFirst yX0_takeFromFirst, Cond.code yX0_takeFromFirst cX0_takeFromFirst 2 none, Cond.methodLink RX0 32 yX0_dropFirst, Cond.instanceMethod yX0_dropFirst, Cond.code yX0_dropFirst cX0_dropFirst 2 none, Cond.methodLink RL 85 yL_unload, Cond.static yL_unload, Cond.codeWith yL_unload cL_unload 6 (some .int) [(0, 12, 15, 13), (0, 12, 19, 15)], Cond.methodLink RL 38 yX1_unload, Cond.instanceMethod yX1_unload, Cond.selects RX1 yX1_unload yX1_unload, Cond.code yX1_unload cX1_unload 5 (some .int), Cond.methodLink RX1 113 yX1_deliverFrom, Cond.instanceMethod yX1_deliverFrom, Cond.code yX1_deliverFrom cX1_deliverFrom 9 (some .int), Cond.methodLink RX1 157 yX1_payOfOne, Cond.instanceMethod yX1_payOfOne, Cond.code yX1_payOfOne cX1_payOfOne 7 (some .int), Cond.methodLink RX1 167 Lib.Math.abs.name, Cond.static Lib.Math.abs.name, Cond.code Lib.Math.abs.name Lib.Math.abs.code 1 (some .int), Cond.methodLink RX1 170 Lib.Math.max.name, Cond.static Lib.Math.max.name, Cond.code Lib.Math.max.name Lib.Math.max.code 2 (some .int), Cond.methodLink RX1 161 yX1_earn, Cond.instanceMethod yX1_earn, Cond.code yX1_earn cX1_earn 4 none, Cond.methodLink RX1 164 yX0_takeFromFirst, Cond.methodLink RL 88 yL_pour, Cond.static yL_pour, Cond.codeWith yL_pour cL_pour 4 (some .int) [(0, 6, 9, 13), (0, 6, 12, 15)], Cond.methodLink RL 41 yX1_pour]
def cw5 : List Cond := [Cond.instanceMethod yX1_pour, Cond.selects RX1 yX1_pour yX1_pour, Cond.code yX1_pour cX1_pour 4 none, Cond.methodLink RX1 117 yX1_checkFellows, Cond.instanceMethod yX1_checkFellows, Cond.code yX1_checkFellows cX1_checkFellows 3 none, Cond.methodLink RL 91 yL_part, Cond.static yL_part, Cond.codeWith yL_part cL_part 5 (some .int) [(0, 7, 10, 13), (0, 7, 14, 15)], Cond.methodLink RL 44 yX1_part, Cond.instanceMethod yX1_part, Cond.selects RX1 yX1_part yX1_part, Cond.code yX1_part cX1_part 4 none, Cond.methodLink RX1 124 yX0_moveAllBehind, Cond.instanceMethod yX0_moveAllBehind, Cond.selects RX0 yX0_moveAllBehind yX0_moveAllBehind, Cond.code yX0_moveAllBehind cX0_moveAllBehind 8 none, Cond.methodLink RL 94 yL_dump, Cond.static yL_dump, Cond.codeWith yL_dump cL_dump 4 (some .int) [(0, 9, 12, 13)], Cond.methodLink RL 47 yX1_dump, Cond.instanceMethod yX1_dump, Cond.selects RX1 yX1_dump yX1_dump, Cond.code yX1_dump cX1_dump 3 (some .int), Cond.methodLink RX1 128 yX0_clear, Cond.instanceMethod yX0_clear, Cond.selects RX0 yX0_clear yX0_clear, Cond.code yX0_clear cX0_clear 1 none, Cond.classLink RL 51 RX2, Cond.instantiable RX2 18, Cond.methodLink RL 53 yX2_init, Cond.instanceMethod yX2_init, Cond.code yX2_init cX2_init 2 none, Cond.methodLink RX2 1 objectInit, Cond.constant RX2 38 (49000), Cond.fieldLink RX2 54 RX2 "thrown" "I", Cond.fieldLink RX2 74 RX2 "time" "I", Cond.fieldLink RX2 7 RX2 "money" "I", Cond.fieldLink RX2 91 RX2 "earned" "I", Cond.fieldLink RX2 98 RX2 "spent" "I", Cond.fieldLink RX2 13 RX2 "columns" "[I", Cond.fieldLink RX2 17 RX2 "lines" "[I", Cond.fieldLink RX2 20 RX2 "accepts" "[I", Cond.fieldLink RX2 23 RX2 "rates" "[I", Cond.fieldLink RX2 26 RX2 "made" "[I", Cond.fieldLink RX2 29 RX2 "wagonKind" "[I", Cond.fieldLink RX2 32 RX2 "wagonRoom" "[I", Cond.fieldLink RX2 35 RX2 "size" "[I", Cond.fieldLink RX2 39 RX2 "origins" "[I", Cond.fieldLink RX2 42 RX2 "born" "[I", Cond.fieldLink RX2 45 RX2 "produced" "[I", Cond.fieldLink RX2 48 RX2 "delivered" "[I", Cond.fieldLink RX2 51 RX2 "dumped" "[I", Cond.lays RX2 RX2 "thrown" "I", Cond.lays RX2 RX2 "time" "I", Cond.lays RX2 RX2 "money" "I", Cond.lays RX2 RX2 "earned" "I", Cond.lays RX2 RX2 "spent" "I", Cond.laysFinal RX2 RX2 "columns" "[I", Cond.laysFinal RX2 RX2 "lines" "[I"]
def cw6 : List Cond := [Cond.laysFinal RX2 RX2 "accepts" "[I", Cond.laysFinal RX2 RX2 "rates" "[I", Cond.laysFinal RX2 RX2 "made" "[I", Cond.laysFinal RX2 RX2 "wagonKind" "[I", Cond.laysFinal RX2 RX2 "wagonRoom" "[I", Cond.laysFinal RX2 RX2 "size" "[I", Cond.laysFinal RX2 RX2 "origins" "[I", Cond.laysFinal RX2 RX2 "born" "[I", Cond.laysFinal RX2 RX2 "produced" "[I", Cond.laysFinal RX2 RX2 "delivered" "[I", Cond.laysFinal RX2 RX2 "dumped" "[I", Cond.superclass RX2 "java/lang/Object", Cond.methodLink RL 60 yX2_thrown, Cond.instanceMethod yX2_thrown, Cond.selects RX2 yX2_thrown yX2_thrown, Cond.code yX2_thrown cX2_thrown 1 (some .int), Cond.methodLink RL 59 yX2_place, Cond.instanceMethod yX2_place, Cond.selects RX2 yX2_place yX2_place, Cond.code yX2_place cX2_place 4 none, Cond.methodLink RX2 77 yX2_in, Cond.static yX2_in, Cond.code yX2_in cX2_in 2 (some .boolean), Cond.methodLink RL 66 yX2_rate, Cond.instanceMethod yX2_rate, Cond.selects RX2 yX2_rate yX2_rate, Cond.code yX2_rate cX2_rate 4 none, Cond.methodLink RL 70 yX2_accept, Cond.instanceMethod yX2_accept, Cond.selects RX2 yX2_accept yX2_accept, Cond.code yX2_accept cX2_accept 3 none, Cond.methodLink RL 73 yX2_make, Cond.instanceMethod yX2_make, Cond.selects RX2 yX2_make yX2_make, Cond.code yX2_make cX2_make 4 none, Cond.methodLink RL 76 yX2_wagon, Cond.instanceMethod yX2_wagon, Cond.selects RX2 yX2_wagon yX2_wagon, Cond.code yX2_wagon cX2_wagon 4 none, Cond.methodLink RL 80 yX2_pass, Cond.instanceMethod yX2_pass, Cond.selects RX2 yX2_pass yX2_pass, Cond.code yX2_pass cX2_pass 5 (some .int), Cond.constant RX2 73 (2000000000), Cond.methodLink RX2 80 yX2_produce, Cond.instanceMethod yX2_produce, Cond.code yX2_produce cX2_produce 3 none, Cond.methodLink RX2 69 yX2_put, Cond.instanceMethod yX2_put, Cond.code yX2_put cX2_put 6 none, Cond.methodLink RX2 61 yX2_packets, Cond.instanceMethod yX2_packets, Cond.code yX2_packets cX2_packets 4 (some .int), Cond.methodLink RX2 57 yX2_isFirst, Cond.instanceMethod yX2_isFirst, Cond.code yX2_isFirst cX2_isFirst 3 (some .boolean), Cond.methodLink RL 84 yX2_load, Cond.instanceMethod yX2_load, Cond.selects RX2 yX2_load yX2_load, Cond.code yX2_load cX2_load 6 (some .int)]
def cw7 : List Cond := [Cond.methodLink RX2 84 yX2_move, Cond.instanceMethod yX2_move, Cond.code yX2_move cX2_move 5 none, Cond.methodLink RX2 65 yX2_drop, Cond.instanceMethod yX2_drop, Cond.code yX2_drop cX2_drop 3 none, Cond.methodLink RL 87 yX2_unload, Cond.instanceMethod yX2_unload, Cond.selects RX2 yX2_unload yX2_unload, Cond.code yX2_unload cX2_unload 9 (some .int), Cond.methodLink RX2 94 yX2_pay, Cond.instanceMethod yX2_pay, Cond.code yX2_pay cX2_pay 6 none, Cond.methodLink RX2 87 yX2_apart, Cond.static yX2_apart, Cond.code yX2_apart cX2_apart 2 (some .int), Cond.methodLink RL 90 yX2_pour, Cond.instanceMethod yX2_pour, Cond.selects RX2 yX2_pour yX2_pour, Cond.code yX2_pour cX2_pour 4 none, Cond.methodLink RL 93 yX2_part, Cond.instanceMethod yX2_part, Cond.selects RX2 yX2_part yX2_part, Cond.code yX2_part cX2_part 7 none, Cond.constant RX2 97 (48000), Cond.methodLink RL 96 yX2_dump, Cond.instanceMethod yX2_dump, Cond.selects RX2 yX2_dump yX2_dump, Cond.code yX2_dump cX2_dump 3 (some .int), Cond.methodLink RL 101 yX2_spend, Cond.instanceMethod yX2_spend, Cond.selects RX2 yX2_spend yX2_spend, Cond.code yX2_spend cX2_spend 2 (some .boolean), Cond.methodLink RL 106 yX2_packet, Cond.instanceMethod yX2_packet, Cond.selects RX2 yX2_packet yX2_packet, Cond.code yX2_packet cX2_packet 9 (some .int), Cond.methodLink RX2 101 yX2_rowOf, Cond.instanceMethod yX2_rowOf, Cond.code yX2_rowOf cX2_rowOf 3 (some .int), Cond.methodLink RL 111 yX2_units, Cond.instanceMethod yX2_units, Cond.selects RX2 yX2_units yX2_units, Cond.code yX2_units cX2_units 4 (some .int), Cond.methodLink RL 115 yX2_count, Cond.instanceMethod yX2_count, Cond.selects RX2 yX2_count yX2_count, Cond.code yX2_count cX2_count 5 (some .int), Cond.methodLink RL 119 yX2_sum, Cond.instanceMethod yX2_sum, Cond.selects RX2 yX2_sum yX2_sum, Cond.code yX2_sum cX2_sum 2 (some .int), Cond.arrayClass .long, Cond.sameMethod "java/lang/Throwable" "java/lang/Throwable" "fillInStackTrace" "(I)Ljava/lang/Throwable;", Cond.selects RX1 yX1_rowAt yX1_rowAt, Cond.selects RX1 yX1_unitsInStocks yX1_unitsInStocks, Cond.selects RX1 yX1_unitsInWagons yX1_unitsInWagons, Cond.selects RX1 yX1_produceEverywhere yX1_produceEverywhere, Cond.selects RX1 yX1_produce yX1_produce, Cond.selects RX0 yX0_lastIs yX0_lastIs]
def cw8 : List Cond := [Cond.selects RX0 yX0_dropFirst yX0_dropFirst, Cond.selects RX1 yX1_deliverFrom yX1_deliverFrom, Cond.selects RX1 yX1_payOfOne yX1_payOfOne, Cond.selects RX1 yX1_earn yX1_earn, Cond.selects RX1 yX1_checkFellows yX1_checkFellows, Cond.selects RX2 yX2_produce yX2_produce, Cond.selects RX2 yX2_put yX2_put, Cond.selects RX2 yX2_packets yX2_packets, Cond.selects RX2 yX2_isFirst yX2_isFirst, Cond.selects RX2 yX2_move yX2_move, Cond.selects RX2 yX2_drop yX2_drop, Cond.selects RX2 yX2_pay yX2_pay, Cond.selects RX2 yX2_rowOf yX2_rowOf]
def cwL : List Cond := cw0 ++ (cw1 ++ (cw2 ++ (cw3 ++ (cw4 ++ (cw5 ++ (cw6 ++ (cw7 ++ (cw8))))))))
theorem cwi0 {w : Cond} (h : w ∈ cw0) : w ∈ cwL := List.mem_append_left _ h
theorem cwg0 : cw0.all goodWord = true := by decide +kernel
theorem cwu0_0 : (Cond.initialized RL) ∈ lw_tbl := List.mem_append_right _ (List.mem_append_left _ (List.mem_of_getElem? (i := 0) (by decide +kernel)))
theorem cwu0_1 : (Cond.initialized RX1) ∈ lw_tbl := List.mem_append_right _ (List.mem_append_left _ (List.mem_of_getElem? (i := 1) (by decide +kernel)))
theorem cwu0_2 : (Cond.initialized RX0) ∈ lw_tbl := List.mem_append_right _ (List.mem_append_left _ (List.mem_of_getElem? (i := 2) (by decide +kernel)))
theorem cwu0_3 : (Cond.initialized RX2) ∈ lw_tbl := List.mem_append_right _ (List.mem_append_left _ (List.mem_of_getElem? (i := 3) (by decide +kernel)))
theorem cwu0_4 : (Cond.initialized "java/lang/Throwable") ∈ lw_tbl := List.mem_append_right _ (List.mem_append_left _ (List.mem_of_getElem? (i := 4) (by decide +kernel)))
theorem cwu0_5 : (Cond.initialized "java/lang/Exception") ∈ lw_tbl := List.mem_append_right _ (List.mem_append_left _ (List.mem_of_getElem? (i := 5) (by decide +kernel)))
theorem cwu0_6 : (Cond.initialized "java/lang/RuntimeException") ∈ lw_tbl := List.mem_append_right _ (List.mem_append_left _ (List.mem_of_getElem? (i := 6) (by decide +kernel)))
theorem cwu0_7 : (Cond.initialized "java/lang/IndexOutOfBoundsException") ∈ lw_tbl := List.mem_append_right _ (List.mem_append_left _ (List.mem_of_getElem? (i := 7) (by decide +kernel)))
theorem cwu0_8 : (Cond.initialized "java/lang/IllegalArgumentException") ∈ lw_tbl := List.mem_append_right _ (List.mem_append_left _ (List.mem_of_getElem? (i := 8) (by decide +kernel)))
theorem cwu0_9 : (Cond.initialized "java/lang/Math") ∈ lw_tbl := List.mem_append_right _ (List.mem_append_left _ (List.mem_of_getElem? (i := 9) (by decide +kernel)))
theorem cwu0_10 : (Cond.classLink RL 8 RX1) ∈ lw_tbl := List.mem_append_right _ (List.mem_append_left _ (List.mem_of_getElem? (i := 10) (by decide +kernel)))
theorem cwu0_11 : (Cond.instantiable RX1 16) ∈ lw_tbl := List.mem_append_right _ (List.mem_append_left _ (List.mem_of_getElem? (i := 11) (by decide +kernel)))
theorem cwu0_12 : (Cond.methodLink RL 50 yX1_init) ∈ lw_tbl := List.mem_append_right _ (List.mem_append_left _ (List.mem_of_getElem? (i := 12) (by decide +kernel)))
theorem cwu0_13 : (Cond.instanceMethod yX1_init) ∈ lw_tbl := List.mem_append_right _ (List.mem_append_left _ (List.mem_of_getElem? (i := 13) (by decide +kernel)))
theorem cwu0_14 : (Cond.code yX1_init cX1_init 2 none) ∈ lw_tbl := List.mem_append_right _ (List.mem_append_left _ (List.mem_of_getElem? (i := 14) (by decide +kernel)))
theorem cwu0_15 : (Cond.methodLink RX1 3 objectInit) ∈ lw_tbl := List.mem_append_right _ (List.mem_append_left _ (List.mem_of_getElem? (i := 15) (by decide +kernel)))
theorem cwu0_16 : (Cond.instanceMethod objectInit) ∈ lw_tbl := List.mem_append_right _ (List.mem_append_left _ (List.mem_of_getElem? (i := 16) (by decide +kernel)))
theorem cwu0_17 : (Cond.code objectInit ⟨#[0xb1]⟩ 1 none) ∈ lw_tbl := List.mem_append_right _ (List.mem_append_left _ (List.mem_of_getElem? (i := 17) (by decide +kernel)))
theorem cwu0_18 : (Cond.classLink RX1 9 RX0) ∈ lw_tbl := List.mem_append_right _ (List.mem_append_left _ (List.mem_of_getElem? (i := 18) (by decide +kernel)))
theorem cwu0_19 : (Cond.instantiable RX0 5) ∈ lw_tbl := List.mem_append_right _ (List.mem_append_left _ (List.mem_of_getElem? (i := 20) (by decide +kernel)))
theorem cwu0_20 : (Cond.instanceMethod yX0_init) ∈ lw_tbl := List.mem_append_right _ (List.mem_append_left _ (List.mem_of_getElem? (i := 22) (by decide +kernel)))
theorem cwu0_21 : (Cond.code yX0_init cX0_init 1 none) ∈ lw_tbl := List.mem_append_right _ (List.mem_append_left _ (List.mem_of_getElem? (i := 23) (by decide +kernel)))
theorem cwu0_22 : (Cond.methodLink RX0 3 objectInit) ∈ lw_tbl := List.mem_append_right _ (List.mem_append_left _ (List.mem_of_getElem? (i := 24) (by decide +kernel)))
theorem cwu0_23 : (Cond.fieldLink RX0 9 RX0 "origins" "[I") ∈ lw_tbl := List.mem_append_right _ (List.mem_append_left _ (List.mem_of_getElem? (i := 25) (by decide +kernel)))
theorem cwu0_24 : (Cond.fieldLink RX0 15 RX0 "amounts" "[I") ∈ lw_tbl := List.mem_append_right _ (List.mem_append_left _ (List.mem_of_getElem? (i := 26) (by decide +kernel)))
theorem cwu0_25 : (Cond.fieldLink RX0 18 RX0 "births" "[I") ∈ lw_tbl := List.mem_append_right _ (List.mem_append_left _ (List.mem_of_getElem? (i := 27) (by decide +kernel)))
theorem cwu0_26 : (Cond.fieldLink RX0 21 RX0 "packets" "I") ∈ lw_tbl := List.mem_append_right _ (List.mem_append_left _ (List.mem_of_getElem? (i := 28) (by decide +kernel)))
theorem cwu0_27 : (Cond.fieldLink RX0 25 RX0 "total" "I") ∈ lw_tbl := List.mem_append_right _ (List.mem_append_left _ (List.mem_of_getElem? (i := 29) (by decide +kernel)))
theorem cwu0_28 : (Cond.laysFinal RX0 RX0 "origins" "[I") ∈ lw_tbl := List.mem_append_right _ (List.mem_append_left _ (List.mem_of_getElem? (i := 30) (by decide +kernel)))
theorem cwu0_29 : (Cond.laysFinal RX0 RX0 "amounts" "[I") ∈ lw_tbl := List.mem_append_right _ (List.mem_append_left _ (List.mem_of_getElem? (i := 32) (by decide +kernel)))
theorem cwu0_30 : (Cond.laysFinal RX0 RX0 "births" "[I") ∈ lw_tbl := List.mem_append_right _ (List.mem_append_left _ (List.mem_of_getElem? (i := 34) (by decide +kernel)))
theorem cwu0_31 : (Cond.lays RX0 RX0 "packets" "I") ∈ lw_tbl := List.mem_append_right _ (List.mem_append_left _ (List.mem_of_getElem? (i := 36) (by decide +kernel)))
theorem cwu0_32 : (Cond.lays RX0 RX0 "total" "I") ∈ lw_tbl := List.mem_append_right _ (List.mem_append_left _ (List.mem_of_getElem? (i := 38) (by decide +kernel)))
theorem cwu0_33 : (Cond.superclass RX0 "java/lang/Object") ∈ lw_tbl := List.mem_append_right _ (List.mem_append_left _ (List.mem_of_getElem? (i := 40) (by decide +kernel)))
theorem cwu0_34 : (Cond.arrayClass .int) ∈ lw_tbl := List.mem_append_right _ (List.mem_append_left _ (List.mem_of_getElem? (i := 41) (by decide +kernel)))
theorem cwu0_35 : (Cond.fieldLink RX1 11 RX1 "stocks" "[LPacketStores$Row;") ∈ lw_tbl := List.mem_append_right _ (List.mem_append_left _ (List.mem_of_getElem? (i := 42) (by decide +kernel)))
theorem cwu0_36 : (Cond.fieldLink RX1 15 RX1 "rates" "[I") ∈ lw_tbl := List.mem_append_right _ (List.mem_append_left _ (List.mem_of_getElem? (i := 43) (by decide +kernel)))
theorem cwu0_37 : (Cond.fieldLink RX1 19 RX1 "madeKinds" "[I") ∈ lw_tbl := List.mem_append_right _ (List.mem_append_left _ (List.mem_of_getElem? (i := 44) (by decide +kernel)))
theorem cwu0_38 : (Cond.fieldLink RX1 22 RX1 "placeColumns" "[I") ∈ lw_tbl := List.mem_append_right _ (List.mem_append_left _ (List.mem_of_getElem? (i := 45) (by decide +kernel)))
theorem cwu0_39 : (Cond.fieldLink RX1 25 RX1 "placeRows" "[I") ∈ lw_tbl := List.mem_append_right _ (List.mem_append_left _ (List.mem_of_getElem? (i := 46) (by decide +kernel)))
theorem cwu0_40 : (Cond.fieldLink RX1 28 RX1 "acceptedKinds" "[I") ∈ lw_tbl := List.mem_append_right _ (List.mem_append_left _ (List.mem_of_getElem? (i := 47) (by decide +kernel)))
theorem cwu0_41 : (Cond.fieldLink RX1 31 RX1 "aboard" "[LPacketStores$Row;") ∈ lw_tbl := List.mem_append_right _ (List.mem_append_left _ (List.mem_of_getElem? (i := 48) (by decide +kernel)))
theorem cwu0_42 : (Cond.fieldLink RX1 34 RX1 "wagonKinds" "[I") ∈ lw_tbl := List.mem_append_right _ (List.mem_append_left _ (List.mem_of_getElem? (i := 49) (by decide +kernel)))
theorem cwu0_43 : (Cond.fieldLink RX1 37 RX1 "wagonRooms" "[I") ∈ lw_tbl := List.mem_append_right _ (List.mem_append_left _ (List.mem_of_getElem? (i := 50) (by decide +kernel)))
theorem cwu0_44 : (Cond.fieldLink RX1 40 RX1 "produced" "[I") ∈ lw_tbl := List.mem_append_right _ (List.mem_append_left _ (List.mem_of_getElem? (i := 51) (by decide +kernel)))
theorem cwu0_45 : (Cond.fieldLink RX1 43 RX1 "delivered" "[I") ∈ lw_tbl := List.mem_append_right _ (List.mem_append_left _ (List.mem_of_getElem? (i := 52) (by decide +kernel)))
theorem cwu0_46 : (Cond.fieldLink RX1 46 RX1 "dumped" "[I") ∈ lw_tbl := List.mem_append_right _ (List.mem_append_left _ (List.mem_of_getElem? (i := 53) (by decide +kernel)))
theorem cwu0_47 : (Cond.fieldLink RX1 49 RX1 "time" "I") ∈ lw_tbl := List.mem_append_right _ (List.mem_append_left _ (List.mem_of_getElem? (i := 54) (by decide +kernel)))
theorem cwu0_48 : (Cond.fieldLink RX1 53 RX1 "money" "I") ∈ lw_tbl := List.mem_append_right _ (List.mem_append_left _ (List.mem_of_getElem? (i := 55) (by decide +kernel)))
theorem cwu0_49 : (Cond.fieldLink RX1 56 RX1 "earned" "I") ∈ lw_tbl := List.mem_append_right _ (List.mem_append_left _ (List.mem_of_getElem? (i := 56) (by decide +kernel)))
theorem cwu0_50 : (Cond.fieldLink RX1 59 RX1 "spent" "I") ∈ lw_tbl := List.mem_append_right _ (List.mem_append_left _ (List.mem_of_getElem? (i := 57) (by decide +kernel)))
theorem cwu0_51 : (Cond.laysFinal RX1 RX1 "stocks" "[LPacketStores$Row;") ∈ lw_tbl := List.mem_append_right _ (List.mem_append_left _ (List.mem_of_getElem? (i := 58) (by decide +kernel)))
theorem cwu0_52 : (Cond.laysFinal RX1 RX1 "rates" "[I") ∈ lw_tbl := List.mem_append_right _ (List.mem_append_left _ (List.mem_of_getElem? (i := 60) (by decide +kernel)))
theorem cwu0_53 : (Cond.laysFinal RX1 RX1 "madeKinds" "[I") ∈ lw_tbl := List.mem_append_right _ (List.mem_append_left _ (List.mem_of_getElem? (i := 62) (by decide +kernel)))
theorem cwu0_54 : (Cond.laysFinal RX1 RX1 "placeColumns" "[I") ∈ lw_tbl := List.mem_append_right _ (List.mem_append_left _ (List.mem_of_getElem? (i := 64) (by decide +kernel)))
theorem cwu0_55 : (Cond.laysFinal RX1 RX1 "placeRows" "[I") ∈ lw_tbl := List.mem_append_right _ (List.mem_append_left _ (List.mem_of_getElem? (i := 66) (by decide +kernel)))
theorem cwu0_56 : (Cond.laysFinal RX1 RX1 "acceptedKinds" "[I") ∈ lw_tbl := List.mem_append_right _ (List.mem_append_left _ (List.mem_of_getElem? (i := 68) (by decide +kernel)))
theorem cwu0_57 : (Cond.laysFinal RX1 RX1 "aboard" "[LPacketStores$Row;") ∈ lw_tbl := List.mem_append_right _ (List.mem_append_left _ (List.mem_of_getElem? (i := 70) (by decide +kernel)))
theorem cwu0_58 : (Cond.laysFinal RX1 RX1 "wagonKinds" "[I") ∈ lw_tbl := List.mem_append_right _ (List.mem_append_left _ (List.mem_of_getElem? (i := 72) (by decide +kernel)))
theorem cwu0_59 : (Cond.laysFinal RX1 RX1 "wagonRooms" "[I") ∈ lw_tbl := List.mem_append_right _ (List.mem_append_left _ (List.mem_of_getElem? (i := 74) (by decide +kernel)))
theorem cwt0 : ∀ w ∈ cw0, w ∈ lw_tbl := List.forall_mem_cons.mpr ⟨cwu0_0, List.forall_mem_cons.mpr ⟨cwu0_1, List.forall_mem_cons.mpr ⟨cwu0_2, List.forall_mem_cons.mpr ⟨cwu0_3, List.forall_mem_cons.mpr ⟨cwu0_4, List.forall_mem_cons.mpr ⟨cwu0_5, List.forall_mem_cons.mpr ⟨cwu0_6, List.forall_mem_cons.mpr ⟨cwu0_7, List.forall_mem_cons.mpr ⟨cwu0_8, List.forall_mem_cons.mpr ⟨cwu0_9, List.forall_mem_cons.mpr ⟨cwu0_10, List.forall_mem_cons.mpr ⟨cwu0_11, List.forall_mem_cons.mpr ⟨cwu0_12, List.forall_mem_cons.mpr ⟨cwu0_13, List.forall_mem_cons.mpr ⟨cwu0_14, List.forall_mem_cons.mpr ⟨cwu0_15, List.forall_mem_cons.mpr ⟨cwu0_16, List.forall_mem_cons.mpr ⟨cwu0_17, List.forall_mem_cons.mpr ⟨cwu0_18, List.forall_mem_cons.mpr ⟨cwu0_19, List.forall_mem_cons.mpr ⟨cwu0_20, List.forall_mem_cons.mpr ⟨cwu0_21, List.forall_mem_cons.mpr ⟨cwu0_22, List.forall_mem_cons.mpr ⟨cwu0_23, List.forall_mem_cons.mpr ⟨cwu0_24, List.forall_mem_cons.mpr ⟨cwu0_25, List.forall_mem_cons.mpr ⟨cwu0_26, List.forall_mem_cons.mpr ⟨cwu0_27, List.forall_mem_cons.mpr ⟨cwu0_28, List.forall_mem_cons.mpr ⟨cwu0_29, List.forall_mem_cons.mpr ⟨cwu0_30, List.forall_mem_cons.mpr ⟨cwu0_31, List.forall_mem_cons.mpr ⟨cwu0_32, List.forall_mem_cons.mpr ⟨cwu0_33, List.forall_mem_cons.mpr ⟨cwu0_34, List.forall_mem_cons.mpr ⟨cwu0_35, List.forall_mem_cons.mpr ⟨cwu0_36, List.forall_mem_cons.mpr ⟨cwu0_37, List.forall_mem_cons.mpr ⟨cwu0_38, List.forall_mem_cons.mpr ⟨cwu0_39, List.forall_mem_cons.mpr ⟨cwu0_40, List.forall_mem_cons.mpr ⟨cwu0_41, List.forall_mem_cons.mpr ⟨cwu0_42, List.forall_mem_cons.mpr ⟨cwu0_43, List.forall_mem_cons.mpr ⟨cwu0_44, List.forall_mem_cons.mpr ⟨cwu0_45, List.forall_mem_cons.mpr ⟨cwu0_46, List.forall_mem_cons.mpr ⟨cwu0_47, List.forall_mem_cons.mpr ⟨cwu0_48, List.forall_mem_cons.mpr ⟨cwu0_49, List.forall_mem_cons.mpr ⟨cwu0_50, List.forall_mem_cons.mpr ⟨cwu0_51, List.forall_mem_cons.mpr ⟨cwu0_52, List.forall_mem_cons.mpr ⟨cwu0_53, List.forall_mem_cons.mpr ⟨cwu0_54, List.forall_mem_cons.mpr ⟨cwu0_55, List.forall_mem_cons.mpr ⟨cwu0_56, List.forall_mem_cons.mpr ⟨cwu0_57, List.forall_mem_cons.mpr ⟨cwu0_58, List.forall_mem_cons.mpr ⟨cwu0_59, fun _ h => absurd h List.not_mem_nil⟩⟩⟩⟩⟩⟩⟩⟩⟩⟩⟩⟩⟩⟩⟩⟩⟩⟩⟩⟩⟩⟩⟩⟩⟩⟩⟩⟩⟩⟩⟩⟩⟩⟩⟩⟩⟩⟩⟩⟩⟩⟩⟩⟩⟩⟩⟩⟩⟩⟩⟩⟩⟩⟩⟩⟩⟩⟩⟩⟩
theorem cwi1 {w : Cond} (h : w ∈ cw1) : w ∈ cwL := List.mem_append_right _ (List.mem_append_left _ h)
theorem cwg1 : cw1.all goodWord = true := by decide +kernel
theorem cwu1_0 : (Cond.laysFinal RX1 RX1 "produced" "[I") ∈ lw_tbl := List.mem_append_right _ (List.mem_append_left _ (List.mem_of_getElem? (i := 76) (by decide +kernel)))
theorem cwu1_1 : (Cond.laysFinal RX1 RX1 "delivered" "[I") ∈ lw_tbl := List.mem_append_right _ (List.mem_append_left _ (List.mem_of_getElem? (i := 78) (by decide +kernel)))
theorem cwu1_2 : (Cond.laysFinal RX1 RX1 "dumped" "[I") ∈ lw_tbl := List.mem_append_right _ (List.mem_append_left _ (List.mem_of_getElem? (i := 80) (by decide +kernel)))
theorem cwu1_3 : (Cond.lays RX1 RX1 "time" "I") ∈ lw_tbl := List.mem_append_right _ (List.mem_append_left _ (List.mem_of_getElem? (i := 82) (by decide +kernel)))
theorem cwu1_4 : (Cond.lays RX1 RX1 "money" "I") ∈ lw_tbl := List.mem_append_right _ (List.mem_append_left _ (List.mem_of_getElem? (i := 84) (by decide +kernel)))
theorem cwu1_5 : (Cond.lays RX1 RX1 "earned" "I") ∈ lw_tbl := List.mem_append_right _ (List.mem_append_left _ (List.mem_of_getElem? (i := 86) (by decide +kernel)))
theorem cwu1_6 : (Cond.lays RX1 RX1 "spent" "I") ∈ lw_tbl := List.mem_append_right _ (List.mem_append_left _ (List.mem_of_getElem? (i := 88) (by decide +kernel)))
theorem cwu1_7 : (Cond.superclass RX1 "java/lang/Object") ∈ lw_tbl := List.mem_append_right _ (List.mem_append_left _ (List.mem_of_getElem? (i := 90) (by decide +kernel)))
theorem cwu1_8 : (Cond.methodLink RL 97 yX1_spend) ∈ lw_tbl := List.mem_append_right _ (List.mem_append_left _ (List.mem_of_getElem? (i := 91) (by decide +kernel)))
theorem cwu1_9 : (Cond.instanceMethod yX1_spend) ∈ lw_tbl := List.mem_append_right _ (List.mem_append_left _ (List.mem_of_getElem? (i := 92) (by decide +kernel)))
theorem cwu1_10 : (Cond.selects RX1 yX1_spend yX1_spend) ∈ lw_tbl := List.mem_append_right _ (List.mem_append_left _ (List.mem_of_getElem? (i := 93) (by decide +kernel)))
theorem cwu1_11 : (Cond.code yX1_spend cX1_spend 2 (some .boolean)) ∈ lw_tbl := List.mem_append_right _ (List.mem_append_left _ (List.mem_of_getElem? (i := 94) (by decide +kernel)))
theorem cwu1_12 : (Cond.constant RX1 100 (2000000000)) ∈ lw_tbl := List.mem_append_right _ (List.mem_append_left _ (List.mem_of_getElem? (i := 95) (by decide +kernel)))
theorem cwu1_13 : (Cond.methodLink RL 102 yX1_packet) ∈ lw_tbl := List.mem_append_right _ (List.mem_append_left _ (List.mem_of_getElem? (i := 96) (by decide +kernel)))
theorem cwu1_14 : (Cond.instanceMethod yX1_packet) ∈ lw_tbl := List.mem_append_right _ (List.mem_append_left _ (List.mem_of_getElem? (i := 97) (by decide +kernel)))
theorem cwu1_15 : (Cond.selects RX1 yX1_packet yX1_packet) ∈ lw_tbl := List.mem_append_right _ (List.mem_append_left _ (List.mem_of_getElem? (i := 98) (by decide +kernel)))
theorem cwu1_16 : (Cond.code yX1_packet cX1_packet 6 (some .int)) ∈ lw_tbl := List.mem_append_right _ (List.mem_append_left _ (List.mem_of_getElem? (i := 99) (by decide +kernel)))
theorem cwu1_17 : (Cond.methodLink RX1 131 yX1_rowAt) ∈ lw_tbl := List.mem_append_right _ (List.mem_append_left _ (List.mem_of_getElem? (i := 100) (by decide +kernel)))
theorem cwu1_18 : (Cond.instanceMethod yX1_rowAt) ∈ lw_tbl := List.mem_append_right _ (List.mem_append_left _ (List.mem_of_getElem? (i := 102) (by decide +kernel)))
theorem cwu1_19 : (Cond.code yX1_rowAt cX1_rowAt 3 (some (.object "PacketStores$Row"))) ∈ lw_tbl := List.mem_append_right _ (List.mem_append_left _ (List.mem_of_getElem? (i := 103) (by decide +kernel)))
theorem cwu1_20 : (Cond.methodLink RX1 173 yX1_isStation) ∈ lw_tbl := List.mem_append_right _ (List.mem_append_left _ (List.mem_of_getElem? (i := 104) (by decide +kernel)))
theorem cwu1_21 : (Cond.static yX1_isStation) ∈ lw_tbl := List.mem_append_right _ (List.mem_append_left _ (List.mem_of_getElem? (i := 105) (by decide +kernel)))
theorem cwu1_22 : (Cond.code yX1_isStation cX1_isStation 1 (some .boolean)) ∈ lw_tbl := List.mem_append_right _ (List.mem_append_left _ (List.mem_of_getElem? (i := 106) (by decide +kernel)))
theorem cwu1_23 : (Cond.methodLink RX1 78 yX1_isKind) ∈ lw_tbl := List.mem_append_right _ (List.mem_append_left _ (List.mem_of_getElem? (i := 107) (by decide +kernel)))
theorem cwu1_24 : (Cond.static yX1_isKind) ∈ lw_tbl := List.mem_append_right _ (List.mem_append_left _ (List.mem_of_getElem? (i := 108) (by decide +kernel)))
theorem cwu1_25 : (Cond.code yX1_isKind cX1_isKind 1 (some .boolean)) ∈ lw_tbl := List.mem_append_right _ (List.mem_append_left _ (List.mem_of_getElem? (i := 109) (by decide +kernel)))
theorem cwu1_26 : (Cond.methodLink RX1 74 yX1_stockIndex) ∈ lw_tbl := List.mem_append_right _ (List.mem_append_left _ (List.mem_of_getElem? (i := 110) (by decide +kernel)))
theorem cwu1_27 : (Cond.static yX1_stockIndex) ∈ lw_tbl := List.mem_append_right _ (List.mem_append_left _ (List.mem_of_getElem? (i := 111) (by decide +kernel)))
theorem cwu1_28 : (Cond.code yX1_stockIndex cX1_stockIndex 2 (some .int)) ∈ lw_tbl := List.mem_append_right _ (List.mem_append_left _ (List.mem_of_getElem? (i := 112) (by decide +kernel)))
theorem cwu1_29 : (Cond.methodLink RX1 135 yX0_look) ∈ lw_tbl := List.mem_append_right _ (List.mem_append_left _ (List.mem_of_getElem? (i := 113) (by decide +kernel)))
theorem cwu1_30 : (Cond.instanceMethod yX0_look) ∈ lw_tbl := List.mem_append_right _ (List.mem_append_left _ (List.mem_of_getElem? (i := 114) (by decide +kernel)))
theorem cwu1_31 : (Cond.selects RX0 yX0_look yX0_look) ∈ lw_tbl := List.mem_append_right _ (List.mem_append_left _ (List.mem_of_getElem? (i := 115) (by decide +kernel)))
theorem cwu1_32 : (Cond.code yX0_look cX0_look 3 (some .int)) ∈ lw_tbl := List.mem_append_right _ (List.mem_append_left _ (List.mem_of_getElem? (i := 116) (by decide +kernel)))
theorem cwu1_33 : (Cond.methodLink RL 107 yX1_units) ∈ lw_tbl := List.mem_append_right _ (List.mem_append_left _ (List.mem_of_getElem? (i := 117) (by decide +kernel)))
theorem cwu1_34 : (Cond.instanceMethod yX1_units) ∈ lw_tbl := List.mem_append_right _ (List.mem_append_left _ (List.mem_of_getElem? (i := 118) (by decide +kernel)))
theorem cwu1_35 : (Cond.selects RX1 yX1_units yX1_units) ∈ lw_tbl := List.mem_append_right _ (List.mem_append_left _ (List.mem_of_getElem? (i := 119) (by decide +kernel)))
theorem cwu1_36 : (Cond.code yX1_units cX1_units 4 (some .int)) ∈ lw_tbl := List.mem_append_right _ (List.mem_append_left _ (List.mem_of_getElem? (i := 120) (by decide +kernel)))
theorem cwu1_37 : (Cond.methodLink RX1 92 yX0_total) ∈ lw_tbl := List.mem_append_right _ (List.mem_append_left _ (List.mem_of_getElem? (i := 121) (by decide +kernel)))
theorem cwu1_38 : (Cond.instanceMethod yX0_total) ∈ lw_tbl := List.mem_append_right _ (List.mem_append_left _ (List.mem_of_getElem? (i := 122) (by decide +kernel)))
theorem cwu1_39 : (Cond.selects RX0 yX0_total yX0_total) ∈ lw_tbl := List.mem_append_right _ (List.mem_append_left _ (List.mem_of_getElem? (i := 123) (by decide +kernel)))
theorem cwu1_40 : (Cond.code yX0_total cX0_total 1 (some .int)) ∈ lw_tbl := List.mem_append_right _ (List.mem_append_left _ (List.mem_of_getElem? (i := 124) (by decide +kernel)))
theorem cwu1_41 : (Cond.methodLink RL 112 yX1_count) ∈ lw_tbl := List.mem_append_right _ (List.mem_append_left _ (List.mem_of_getElem? (i := 125) (by decide +kernel)))
theorem cwu1_42 : (Cond.instanceMethod yX1_count) ∈ lw_tbl := List.mem_append_right _ (List.mem_append_left _ (List.mem_of_getElem? (i := 126) (by decide +kernel)))
theorem cwu1_43 : (Cond.selects RX1 yX1_count yX1_count) ∈ lw_tbl := List.mem_append_right _ (List.mem_append_left _ (List.mem_of_getElem? (i := 127) (by decide +kernel)))
theorem cwu1_44 : (Cond.code yX1_count cX1_count 3 (some .int)) ∈ lw_tbl := List.mem_append_right _ (List.mem_append_left _ (List.mem_of_getElem? (i := 128) (by decide +kernel)))
theorem cwu1_45 : (Cond.methodLink RX1 138 yX1_unitsInStocks) ∈ lw_tbl := List.mem_append_right _ (List.mem_append_left _ (List.mem_of_getElem? (i := 129) (by decide +kernel)))
theorem cwu1_46 : (Cond.instanceMethod yX1_unitsInStocks) ∈ lw_tbl := List.mem_append_right _ (List.mem_append_left _ (List.mem_of_getElem? (i := 131) (by decide +kernel)))
theorem cwu1_47 : (Cond.code yX1_unitsInStocks cX1_unitsInStocks 4 (some .int)) ∈ lw_tbl := List.mem_append_right _ (List.mem_append_left _ (List.mem_of_getElem? (i := 132) (by decide +kernel)))
theorem cwu1_48 : (Cond.methodLink RX1 142 yX1_unitsInWagons) ∈ lw_tbl := List.mem_append_right _ (List.mem_append_left _ (List.mem_of_getElem? (i := 133) (by decide +kernel)))
theorem cwu1_49 : (Cond.instanceMethod yX1_unitsInWagons) ∈ lw_tbl := List.mem_append_right _ (List.mem_append_left _ (List.mem_of_getElem? (i := 135) (by decide +kernel)))
theorem cwu1_50 : (Cond.code yX1_unitsInWagons cX1_unitsInWagons 4 (some .int)) ∈ lw_tbl := List.mem_append_right _ (List.mem_append_left _ (List.mem_of_getElem? (i := 136) (by decide +kernel)))
theorem cwu1_51 : (Cond.methodLink RL 116 yX1_sum) ∈ lw_tbl := List.mem_append_right _ (List.mem_append_left _ (List.mem_of_getElem? (i := 137) (by decide +kernel)))
theorem cwu1_52 : (Cond.instanceMethod yX1_sum) ∈ lw_tbl := List.mem_append_right _ (List.mem_append_left _ (List.mem_of_getElem? (i := 138) (by decide +kernel)))
theorem cwu1_53 : (Cond.selects RX1 yX1_sum yX1_sum) ∈ lw_tbl := List.mem_append_right _ (List.mem_append_left _ (List.mem_of_getElem? (i := 139) (by decide +kernel)))
theorem cwu1_54 : (Cond.code yX1_sum cX1_sum 2 (some .int)) ∈ lw_tbl := List.mem_append_right _ (List.mem_append_left _ (List.mem_of_getElem? (i := 140) (by decide +kernel)))
theorem cwu1_55 : (Cond.methodLink RL 54 yL_place) ∈ lw_tbl := List.mem_append_right _ (List.mem_append_left _ (List.mem_of_getElem? (i := 141) (by decide +kernel)))
theorem cwu1_56 : (Cond.static yL_place) ∈ lw_tbl := List.mem_append_right _ (List.mem_append_left _ (List.mem_of_getElem? (i := 142) (by decide +kernel)))
theorem cwu1_57 : (Cond.codeWith yL_place cL_place 5 (some .int) [(0, 7, 10, 13), (0, 7, 14, 15)]) ∈ lw_tbl := List.mem_append_right _ (List.mem_append_left _ (List.mem_of_getElem? (i := 143) (by decide +kernel)))
theorem cwu1_58 : (Cond.classLink RL 13 "java/lang/IndexOutOfBoundsException") ∈ lw_tbl := List.mem_append_right _ (List.mem_append_left _ (List.mem_of_getElem? (i := 144) (by decide +kernel)))
theorem cwu1_59 : (Cond.classLink RL 15 "java/lang/IllegalArgumentException") ∈ lw_tbl := List.mem_append_right _ (List.mem_append_left _ (List.mem_of_getElem? (i := 145) (by decide +kernel)))
theorem cwt1 : ∀ w ∈ cw1, w ∈ lw_tbl := List.forall_mem_cons.mpr ⟨cwu1_0, List.forall_mem_cons.mpr ⟨cwu1_1, List.forall_mem_cons.mpr ⟨cwu1_2, List.forall_mem_cons.mpr ⟨cwu1_3, List.forall_mem_cons.mpr ⟨cwu1_4, List.forall_mem_cons.mpr ⟨cwu1_5, List.forall_mem_cons.mpr ⟨cwu1_6, List.forall_mem_cons.mpr ⟨cwu1_7, List.forall_mem_cons.mpr ⟨cwu1_8, List.forall_mem_cons.mpr ⟨cwu1_9, List.forall_mem_cons.mpr ⟨cwu1_10, List.forall_mem_cons.mpr ⟨cwu1_11, List.forall_mem_cons.mpr ⟨cwu1_12, List.forall_mem_cons.mpr ⟨cwu1_13, List.forall_mem_cons.mpr ⟨cwu1_14, List.forall_mem_cons.mpr ⟨cwu1_15, List.forall_mem_cons.mpr ⟨cwu1_16, List.forall_mem_cons.mpr ⟨cwu1_17, List.forall_mem_cons.mpr ⟨cwu1_18, List.forall_mem_cons.mpr ⟨cwu1_19, List.forall_mem_cons.mpr ⟨cwu1_20, List.forall_mem_cons.mpr ⟨cwu1_21, List.forall_mem_cons.mpr ⟨cwu1_22, List.forall_mem_cons.mpr ⟨cwu1_23, List.forall_mem_cons.mpr ⟨cwu1_24, List.forall_mem_cons.mpr ⟨cwu1_25, List.forall_mem_cons.mpr ⟨cwu1_26, List.forall_mem_cons.mpr ⟨cwu1_27, List.forall_mem_cons.mpr ⟨cwu1_28, List.forall_mem_cons.mpr ⟨cwu1_29, List.forall_mem_cons.mpr ⟨cwu1_30, List.forall_mem_cons.mpr ⟨cwu1_31, List.forall_mem_cons.mpr ⟨cwu1_32, List.forall_mem_cons.mpr ⟨cwu1_33, List.forall_mem_cons.mpr ⟨cwu1_34, List.forall_mem_cons.mpr ⟨cwu1_35, List.forall_mem_cons.mpr ⟨cwu1_36, List.forall_mem_cons.mpr ⟨cwu1_37, List.forall_mem_cons.mpr ⟨cwu1_38, List.forall_mem_cons.mpr ⟨cwu1_39, List.forall_mem_cons.mpr ⟨cwu1_40, List.forall_mem_cons.mpr ⟨cwu1_41, List.forall_mem_cons.mpr ⟨cwu1_42, List.forall_mem_cons.mpr ⟨cwu1_43, List.forall_mem_cons.mpr ⟨cwu1_44, List.forall_mem_cons.mpr ⟨cwu1_45, List.forall_mem_cons.mpr ⟨cwu1_46, List.forall_mem_cons.mpr ⟨cwu1_47, List.forall_mem_cons.mpr ⟨cwu1_48, List.forall_mem_cons.mpr ⟨cwu1_49, List.forall_mem_cons.mpr ⟨cwu1_50, List.forall_mem_cons.mpr ⟨cwu1_51, List.forall_mem_cons.mpr ⟨cwu1_52, List.forall_mem_cons.mpr ⟨cwu1_53, List.forall_mem_cons.mpr ⟨cwu1_54, List.forall_mem_cons.mpr ⟨cwu1_55, List.forall_mem_cons.mpr ⟨cwu1_56, List.forall_mem_cons.mpr ⟨cwu1_57, List.forall_mem_cons.mpr ⟨cwu1_58, List.forall_mem_cons.mpr ⟨cwu1_59, fun _ h => absurd h List.not_mem_nil⟩⟩⟩⟩⟩⟩⟩⟩⟩⟩⟩⟩⟩⟩⟩⟩⟩⟩⟩⟩⟩⟩⟩⟩⟩⟩⟩⟩⟩⟩⟩⟩⟩⟩⟩⟩⟩⟩⟩⟩⟩⟩⟩⟩⟩⟩⟩⟩⟩⟩⟩⟩⟩⟩⟩⟩⟩⟩⟩⟩
theorem cwi2 {w : Cond} (h : w ∈ cw2) : w ∈ cwL := List.mem_append_right _ (List.mem_append_right _ (List.mem_append_left _ h))
theorem cwg2 : cw2.all goodWord = true := by decide +kernel
theorem cwu2_0 : (Cond.methodLink RL 7 yX1_place) ∈ lw_tbl := List.mem_append_right _ (List.mem_append_left _ (List.mem_of_getElem? (i := 146) (by decide +kernel)))
theorem cwu2_1 : (Cond.instanceMethod yX1_place) ∈ lw_tbl := List.mem_append_right _ (List.mem_append_left _ (List.mem_of_getElem? (i := 147) (by decide +kernel)))
theorem cwu2_2 : (Cond.selects RX1 yX1_place yX1_place) ∈ lw_tbl := List.mem_append_right _ (List.mem_append_left _ (List.mem_of_getElem? (i := 148) (by decide +kernel)))
theorem cwu2_3 : (Cond.code yX1_place cX1_place 4 none) ∈ lw_tbl := List.mem_append_right _ (List.mem_append_left _ (List.mem_of_getElem? (i := 149) (by decide +kernel)))
theorem cwu2_4 : (Cond.methodLink RX1 63 yX1_checkStation) ∈ lw_tbl := List.mem_append_right _ (List.mem_append_left _ (List.mem_of_getElem? (i := 150) (by decide +kernel)))
theorem cwu2_5 : (Cond.static yX1_checkStation) ∈ lw_tbl := List.mem_append_right _ (List.mem_append_left _ (List.mem_of_getElem? (i := 151) (by decide +kernel)))
theorem cwu2_6 : (Cond.code yX1_checkStation cX1_checkStation 1 none) ∈ lw_tbl := List.mem_append_right _ (List.mem_append_left _ (List.mem_of_getElem? (i := 152) (by decide +kernel)))
theorem cwu2_7 : (Cond.classLink RX1 180 "java/lang/IndexOutOfBoundsException") ∈ lw_tbl := List.mem_append_right _ (List.mem_append_left _ (List.mem_of_getElem? (i := 153) (by decide +kernel)))
theorem cwu2_8 : (Cond.instantiable "java/lang/IndexOutOfBoundsException" 6) ∈ lw_tbl := List.mem_append_right _ (List.mem_append_left _ (List.mem_of_getElem? (i := 154) (by decide +kernel)))
theorem cwu2_9 : (Cond.selects "java/lang/IndexOutOfBoundsException" ⟨"java/lang/Throwable", "fillInStackTrace", "(I)Ljava/lang/Throwable;"⟩ ⟨"java/lang/Throwable", "fillInStackTrace", "(I)Ljava/lang/Throwable;"⟩) ∈ lw_tbl := List.mem_append_right _ (List.mem_append_left _ (List.mem_of_getElem? (i := 162) (by decide +kernel)))
theorem cwu2_10 : (Cond.selects "java/lang/IndexOutOfBoundsException" ⟨"java/lang/Throwable", "fillInStackTrace", "()Ljava/lang/Throwable;"⟩ ⟨"java/lang/Throwable", "fillInStackTrace", "()Ljava/lang/Throwable;"⟩) ∈ lw_tbl := List.mem_append_right _ (List.mem_append_left _ (List.mem_of_getElem? (i := 163) (by decide +kernel)))
theorem cwu2_11 : (Cond.lays "java/lang/IndexOutOfBoundsException" "java/lang/Throwable" "cause" "Ljava/lang/Throwable;") ∈ lw_tbl := List.mem_append_right _ (List.mem_append_left _ (List.mem_of_getElem? (i := 164) (by decide +kernel)))
theorem cwu2_12 : (Cond.lays "java/lang/Throwable" "java/lang/Throwable" "cause" "Ljava/lang/Throwable;") ∈ lw_tbl := List.mem_append_right _ (List.mem_append_left _ (List.mem_of_getElem? (i := 165) (by decide +kernel)))
theorem cwu2_13 : (Cond.lays "java/lang/IndexOutOfBoundsException" "java/lang/Throwable" "stackTrace" "[Ljava/lang/StackTraceElement;") ∈ lw_tbl := List.mem_append_right _ (List.mem_append_left _ (List.mem_of_getElem? (i := 166) (by decide +kernel)))
theorem cwu2_14 : (Cond.lays "java/lang/Throwable" "java/lang/Throwable" "stackTrace" "[Ljava/lang/StackTraceElement;") ∈ lw_tbl := List.mem_append_right _ (List.mem_append_left _ (List.mem_of_getElem? (i := 167) (by decide +kernel)))
theorem cwu2_15 : (Cond.lays "java/lang/IndexOutOfBoundsException" "java/lang/Throwable" "suppressedExceptions" "Ljava/util/List;") ∈ lw_tbl := List.mem_append_right _ (List.mem_append_left _ (List.mem_of_getElem? (i := 168) (by decide +kernel)))
theorem cwu2_16 : (Cond.lays "java/lang/Throwable" "java/lang/Throwable" "suppressedExceptions" "Ljava/util/List;") ∈ lw_tbl := List.mem_append_right _ (List.mem_append_left _ (List.mem_of_getElem? (i := 169) (by decide +kernel)))
theorem cwu2_17 : (Cond.lays "java/lang/IndexOutOfBoundsException" "java/lang/Throwable" "detailMessage" "Ljava/lang/String;") ∈ lw_tbl := List.mem_append_right _ (List.mem_append_left _ (List.mem_of_getElem? (i := 170) (by decide +kernel)))
theorem cwu2_18 : (Cond.lays "java/lang/Throwable" "java/lang/Throwable" "detailMessage" "Ljava/lang/String;") ∈ lw_tbl := List.mem_append_right _ (List.mem_append_left _ (List.mem_of_getElem? (i := 171) (by decide +kernel)))
theorem cwu2_19 : (Cond.lays "java/lang/IndexOutOfBoundsException" "java/lang/Throwable" "backtrace" "Ljava/lang/Object;") ∈ lw_tbl := List.mem_append_right _ (List.mem_append_left _ (List.mem_of_getElem? (i := 172) (by decide +kernel)))
theorem cwu2_20 : (Cond.lays "java/lang/Throwable" "java/lang/Throwable" "backtrace" "Ljava/lang/Object;") ∈ lw_tbl := List.mem_append_right _ (List.mem_append_left _ (List.mem_of_getElem? (i := 173) (by decide +kernel)))
theorem cwu2_21 : (Cond.fieldLink "java/lang/Throwable" 198 "java/lang/Throwable" "backtrace" "Ljava/lang/Object;") ∈ lw_tbl := List.mem_append_right _ (List.mem_append_left _ (List.mem_of_getElem? (i := 174) (by decide +kernel)))
theorem cwu2_22 : (Cond.superclass "java/lang/Throwable" "java/lang/Object") ∈ lw_tbl := List.mem_append_right _ (List.mem_append_left _ (List.mem_of_getElem? (i := 175) (by decide +kernel)))
theorem cwu2_23 : (Cond.instanceMethod ⟨"java/lang/Throwable", "<init>", "()V"⟩) ∈ lw_tbl := List.mem_append_right _ (List.mem_append_left _ (List.mem_of_getElem? (i := 176) (by decide +kernel)))
theorem cwu2_24 : (Cond.code ⟨"java/lang/Throwable", "<init>", "()V"⟩ prog_11_method_1_code 1 none) ∈ lw_tbl := List.mem_append_right _ (List.mem_append_left _ (List.mem_of_getElem? (i := 177) (by decide +kernel)))
theorem cwu2_25 : (Cond.methodLink "java/lang/Throwable" 1 objectInit) ∈ lw_tbl := List.mem_append_right _ (List.mem_append_left _ (List.mem_of_getElem? (i := 178) (by decide +kernel)))
theorem cwu2_26 : (Cond.fieldLink "java/lang/Throwable" 13 "java/lang/Throwable" "UNASSIGNED_STACK" "[Ljava/lang/StackTraceElement;") ∈ lw_tbl := List.mem_append_right _ (List.mem_append_left _ (List.mem_of_getElem? (i := 179) (by decide +kernel)))
theorem cwu2_27 : (Cond.fieldLink "java/lang/Throwable" 20 "java/lang/Throwable" "SUPPRESSED_SENTINEL" "Ljava/util/List;") ∈ lw_tbl := List.mem_append_right _ (List.mem_append_left _ (List.mem_of_getElem? (i := 181) (by decide +kernel)))
theorem cwu2_28 : (Cond.methodLink "java/lang/Throwable" 27 ⟨"java/lang/Throwable", "fillInStackTrace", "()Ljava/lang/Throwable;"⟩) ∈ lw_tbl := List.mem_append_right _ (List.mem_append_left _ (List.mem_of_getElem? (i := 183) (by decide +kernel)))
theorem cwu2_29 : (Cond.instanceMethod ⟨"java/lang/Throwable", "fillInStackTrace", "()Ljava/lang/Throwable;"⟩) ∈ lw_tbl := List.mem_append_right _ (List.mem_append_left _ (List.mem_of_getElem? (i := 184) (by decide +kernel)))
theorem cwu2_30 : (Cond.sameMethod "java/lang/Throwable" "java/lang/Throwable" "fillInStackTrace" "()Ljava/lang/Throwable;") ∈ lw_tbl := List.mem_append_right _ (List.mem_append_left _ (List.mem_of_getElem? (i := 185) (by decide +kernel)))
theorem cwu2_31 : (Cond.selects "java/lang/IllegalArgumentException" ⟨"java/lang/Throwable", "fillInStackTrace", "()Ljava/lang/Throwable;"⟩ ⟨"java/lang/Throwable", "fillInStackTrace", "()Ljava/lang/Throwable;"⟩) ∈ lw_tbl := List.mem_append_right _ (List.mem_append_left _ (List.mem_of_getElem? (i := 186) (by decide +kernel)))
theorem cwu2_32 : (Cond.codeSync ⟨"java/lang/Throwable", "fillInStackTrace", "()Ljava/lang/Throwable;"⟩ prog_11_method_18_code 1 (some (.object "java/lang/Throwable"))) ∈ lw_tbl := List.mem_append_right _ (List.mem_append_left _ (List.mem_of_getElem? (i := 187) (by decide +kernel)))
theorem cwu2_33 : (Cond.methodLink "java/lang/Throwable" 202 ⟨"java/lang/Throwable", "fillInStackTrace", "(I)Ljava/lang/Throwable;"⟩) ∈ lw_tbl := List.mem_append_right _ (List.mem_append_left _ (List.mem_of_getElem? (i := 188) (by decide +kernel)))
theorem cwu2_34 : (Cond.instanceMethod ⟨"java/lang/Throwable", "fillInStackTrace", "(I)Ljava/lang/Throwable;"⟩) ∈ lw_tbl := List.mem_append_right _ (List.mem_append_left _ (List.mem_of_getElem? (i := 190) (by decide +kernel)))
theorem cwu2_35 : (Cond.instantiable "java/lang/Throwable" 6) ∈ lw_tbl := List.mem_append_right _ (List.mem_append_left _ (List.mem_of_getElem? (i := 191) (by decide +kernel)))
theorem cwu2_36 : (Cond.native ⟨"java/lang/Throwable", "fillInStackTrace", "(I)Ljava/lang/Throwable;"⟩) ∈ lw_tbl := List.mem_append_right _ (List.mem_append_left _ (List.mem_of_getElem? (i := 192) (by decide +kernel)))
theorem cwu2_37 : (Cond.methodLink RX1 184 ⟨"java/lang/IndexOutOfBoundsException", "<init>", "(Ljava/lang/String;)V"⟩) ∈ lw_tbl := List.mem_append_right _ (List.mem_append_left _ (List.mem_of_getElem? (i := 194) (by decide +kernel)))
theorem cwu2_38 : (Cond.instanceMethod ⟨"java/lang/IndexOutOfBoundsException", "<init>", "(Ljava/lang/String;)V"⟩) ∈ lw_tbl := List.mem_append_right _ (List.mem_append_left _ (List.mem_of_getElem? (i := 195) (by decide +kernel)))
theorem cwu2_39 : (Cond.code ⟨"java/lang/IndexOutOfBoundsException", "<init>", "(Ljava/lang/String;)V"⟩ prog_7_method_2_code 2 none) ∈ lw_tbl := List.mem_append_right _ (List.mem_append_left _ (List.mem_of_getElem? (i := 196) (by decide +kernel)))
theorem cwu2_40 : (Cond.methodLink "java/lang/IndexOutOfBoundsException" 7 ⟨"java/lang/RuntimeException", "<init>", "(Ljava/lang/String;)V"⟩) ∈ lw_tbl := List.mem_append_right _ (List.mem_append_left _ (List.mem_of_getElem? (i := 197) (by decide +kernel)))
theorem cwu2_41 : (Cond.instanceMethod ⟨"java/lang/RuntimeException", "<init>", "(Ljava/lang/String;)V"⟩) ∈ lw_tbl := List.mem_append_right _ (List.mem_append_left _ (List.mem_of_getElem? (i := 198) (by decide +kernel)))
theorem cwu2_42 : (Cond.code ⟨"java/lang/RuntimeException", "<init>", "(Ljava/lang/String;)V"⟩ prog_9_method_2_code 2 none) ∈ lw_tbl := List.mem_append_right _ (List.mem_append_left _ (List.mem_of_getElem? (i := 199) (by decide +kernel)))
theorem cwu2_43 : (Cond.methodLink "java/lang/RuntimeException" 7 ⟨"java/lang/Exception", "<init>", "(Ljava/lang/String;)V"⟩) ∈ lw_tbl := List.mem_append_right _ (List.mem_append_left _ (List.mem_of_getElem? (i := 200) (by decide +kernel)))
theorem cwu2_44 : (Cond.instanceMethod ⟨"java/lang/Exception", "<init>", "(Ljava/lang/String;)V"⟩) ∈ lw_tbl := List.mem_append_right _ (List.mem_append_left _ (List.mem_of_getElem? (i := 201) (by decide +kernel)))
theorem cwu2_45 : (Cond.code ⟨"java/lang/Exception", "<init>", "(Ljava/lang/String;)V"⟩ prog_5_method_2_code 2 none) ∈ lw_tbl := List.mem_append_right _ (List.mem_append_left _ (List.mem_of_getElem? (i := 202) (by decide +kernel)))
theorem cwu2_46 : (Cond.methodLink "java/lang/Exception" 7 ⟨"java/lang/Throwable", "<init>", "(Ljava/lang/String;)V"⟩) ∈ lw_tbl := List.mem_append_right _ (List.mem_append_left _ (List.mem_of_getElem? (i := 203) (by decide +kernel)))
theorem cwu2_47 : (Cond.instanceMethod ⟨"java/lang/Throwable", "<init>", "(Ljava/lang/String;)V"⟩) ∈ lw_tbl := List.mem_append_right _ (List.mem_append_left _ (List.mem_of_getElem? (i := 204) (by decide +kernel)))
theorem cwu2_48 : (Cond.code ⟨"java/lang/Throwable", "<init>", "(Ljava/lang/String;)V"⟩ prog_11_method_2_code 2 none) ∈ lw_tbl := List.mem_append_right _ (List.mem_append_left _ (List.mem_of_getElem? (i := 205) (by decide +kernel)))
theorem cwu2_49 : (Cond.fieldLink "java/lang/Throwable" 31 "java/lang/Throwable" "detailMessage" "Ljava/lang/String;") ∈ lw_tbl := List.mem_append_right _ (List.mem_append_left _ (List.mem_of_getElem? (i := 207) (by decide +kernel)))
theorem cwu2_50 : (Cond.fieldLink "java/lang/Throwable" 7 "java/lang/Throwable" "cause" "Ljava/lang/Throwable;") ∈ lw_tbl := List.mem_append_right _ (List.mem_append_left _ (List.mem_of_getElem? (i := 208) (by decide +kernel)))
theorem cwu2_51 : (Cond.fieldLink "java/lang/Throwable" 17 "java/lang/Throwable" "stackTrace" "[Ljava/lang/StackTraceElement;") ∈ lw_tbl := List.mem_append_right _ (List.mem_append_left _ (List.mem_of_getElem? (i := 209) (by decide +kernel)))
theorem cwu2_52 : (Cond.fieldLink "java/lang/Throwable" 24 "java/lang/Throwable" "suppressedExceptions" "Ljava/util/List;") ∈ lw_tbl := List.mem_append_right _ (List.mem_append_left _ (List.mem_of_getElem? (i := 210) (by decide +kernel)))
theorem cwu2_53 : (Cond.lays "java/lang/IndexOutOfBoundsException" "java/lang/Throwable" "depth" "I") ∈ lw_tbl := List.mem_append_right _ (List.mem_append_left _ (List.mem_of_getElem? (i := 215) (by decide +kernel)))
theorem cwu2_54 : (Cond.superclass "java/lang/IndexOutOfBoundsException" "java/lang/RuntimeException") ∈ lw_tbl := List.mem_append_right _ (List.mem_append_left _ (List.mem_of_getElem? (i := 218) (by decide +kernel)))
theorem cwu2_55 : (Cond.arrayClass .byte) ∈ lw_tbl := List.mem_append_right _ (List.mem_append_left _ (List.mem_of_getElem? (i := 219) (by decide +kernel)))
theorem cwu2_56 : (Cond.methodLink RX1 67 yX1_checkRange) ∈ lw_tbl := List.mem_append_right _ (List.mem_append_left _ (List.mem_of_getElem? (i := 220) (by decide +kernel)))
theorem cwu2_57 : (Cond.static yX1_checkRange) ∈ lw_tbl := List.mem_append_right _ (List.mem_append_left _ (List.mem_of_getElem? (i := 221) (by decide +kernel)))
theorem cwu2_58 : (Cond.code yX1_checkRange cX1_checkRange 2 none) ∈ lw_tbl := List.mem_append_right _ (List.mem_append_left _ (List.mem_of_getElem? (i := 222) (by decide +kernel)))
theorem cwu2_59 : (Cond.classLink RX1 82 "java/lang/IllegalArgumentException") ∈ lw_tbl := List.mem_append_right _ (List.mem_append_left _ (List.mem_of_getElem? (i := 223) (by decide +kernel)))
theorem cwt2 : ∀ w ∈ cw2, w ∈ lw_tbl := List.forall_mem_cons.mpr ⟨cwu2_0, List.forall_mem_cons.mpr ⟨cwu2_1, List.forall_mem_cons.mpr ⟨cwu2_2, List.forall_mem_cons.mpr ⟨cwu2_3, List.forall_mem_cons.mpr ⟨cwu2_4, List.forall_mem_cons.mpr ⟨cwu2_5, List.forall_mem_cons.mpr ⟨cwu2_6, List.forall_mem_cons.mpr ⟨cwu2_7, List.forall_mem_cons.mpr ⟨cwu2_8, List.forall_mem_cons.mpr ⟨cwu2_9, List.forall_mem_cons.mpr ⟨cwu2_10, List.forall_mem_cons.mpr ⟨cwu2_11, List.forall_mem_cons.mpr ⟨cwu2_12, List.forall_mem_cons.mpr ⟨cwu2_13, List.forall_mem_cons.mpr ⟨cwu2_14, List.forall_mem_cons.mpr ⟨cwu2_15, List.forall_mem_cons.mpr ⟨cwu2_16, List.forall_mem_cons.mpr ⟨cwu2_17, List.forall_mem_cons.mpr ⟨cwu2_18, List.forall_mem_cons.mpr ⟨cwu2_19, List.forall_mem_cons.mpr ⟨cwu2_20, List.forall_mem_cons.mpr ⟨cwu2_21, List.forall_mem_cons.mpr ⟨cwu2_22, List.forall_mem_cons.mpr ⟨cwu2_23, List.forall_mem_cons.mpr ⟨cwu2_24, List.forall_mem_cons.mpr ⟨cwu2_25, List.forall_mem_cons.mpr ⟨cwu2_26, List.forall_mem_cons.mpr ⟨cwu2_27, List.forall_mem_cons.mpr ⟨cwu2_28, List.forall_mem_cons.mpr ⟨cwu2_29, List.forall_mem_cons.mpr ⟨cwu2_30, List.forall_mem_cons.mpr ⟨cwu2_31, List.forall_mem_cons.mpr ⟨cwu2_32, List.forall_mem_cons.mpr ⟨cwu2_33, List.forall_mem_cons.mpr ⟨cwu2_34, List.forall_mem_cons.mpr ⟨cwu2_35, List.forall_mem_cons.mpr ⟨cwu2_36, List.forall_mem_cons.mpr ⟨cwu2_37, List.forall_mem_cons.mpr ⟨cwu2_38, List.forall_mem_cons.mpr ⟨cwu2_39, List.forall_mem_cons.mpr ⟨cwu2_40, List.forall_mem_cons.mpr ⟨cwu2_41, List.forall_mem_cons.mpr ⟨cwu2_42, List.forall_mem_cons.mpr ⟨cwu2_43, List.forall_mem_cons.mpr ⟨cwu2_44, List.forall_mem_cons.mpr ⟨cwu2_45, List.forall_mem_cons.mpr ⟨cwu2_46, List.forall_mem_cons.mpr ⟨cwu2_47, List.forall_mem_cons.mpr ⟨cwu2_48, List.forall_mem_cons.mpr ⟨cwu2_49, List.forall_mem_cons.mpr ⟨cwu2_50, List.forall_mem_cons.mpr ⟨cwu2_51, List.forall_mem_cons.mpr ⟨cwu2_52, List.forall_mem_cons.mpr ⟨cwu2_53, List.forall_mem_cons.mpr ⟨cwu2_54, List.forall_mem_cons.mpr ⟨cwu2_55, List.forall_mem_cons.mpr ⟨cwu2_56, List.forall_mem_cons.mpr ⟨cwu2_57, List.forall_mem_cons.mpr ⟨cwu2_58, List.forall_mem_cons.mpr ⟨cwu2_59, fun _ h => absurd h List.not_mem_nil⟩⟩⟩⟩⟩⟩⟩⟩⟩⟩⟩⟩⟩⟩⟩⟩⟩⟩⟩⟩⟩⟩⟩⟩⟩⟩⟩⟩⟩⟩⟩⟩⟩⟩⟩⟩⟩⟩⟩⟩⟩⟩⟩⟩⟩⟩⟩⟩⟩⟩⟩⟩⟩⟩⟩⟩⟩⟩⟩⟩
theorem cwi3 {w : Cond} (h : w ∈ cw3) : w ∈ cwL := List.mem_append_right _ (List.mem_append_right _ (List.mem_append_right _ (List.mem_append_left _ h)))
theorem cwg3 : cw3.all goodWord = true := by decide +kernel
theorem cwu3_0 : (Cond.instantiable "java/lang/IllegalArgumentException" 6) ∈ lw_tbl := List.mem_append_right _ (List.mem_append_left _ (List.mem_of_getElem? (i := 224) (by decide +kernel)))
theorem cwu3_1 : (Cond.selects "java/lang/IllegalArgumentException" ⟨"java/lang/Throwable", "fillInStackTrace", "(I)Ljava/lang/Throwable;"⟩ ⟨"java/lang/Throwable", "fillInStackTrace", "(I)Ljava/lang/Throwable;"⟩) ∈ lw_tbl := List.mem_append_right _ (List.mem_append_left _ (List.mem_of_getElem? (i := 226) (by decide +kernel)))
theorem cwu3_2 : (Cond.lays "java/lang/IllegalArgumentException" "java/lang/Throwable" "cause" "Ljava/lang/Throwable;") ∈ lw_tbl := List.mem_append_right _ (List.mem_append_left _ (List.mem_of_getElem? (i := 227) (by decide +kernel)))
theorem cwu3_3 : (Cond.lays "java/lang/IllegalArgumentException" "java/lang/Throwable" "stackTrace" "[Ljava/lang/StackTraceElement;") ∈ lw_tbl := List.mem_append_right _ (List.mem_append_left _ (List.mem_of_getElem? (i := 228) (by decide +kernel)))
theorem cwu3_4 : (Cond.lays "java/lang/IllegalArgumentException" "java/lang/Throwable" "suppressedExceptions" "Ljava/util/List;") ∈ lw_tbl := List.mem_append_right _ (List.mem_append_left _ (List.mem_of_getElem? (i := 229) (by decide +kernel)))
theorem cwu3_5 : (Cond.lays "java/lang/IllegalArgumentException" "java/lang/Throwable" "detailMessage" "Ljava/lang/String;") ∈ lw_tbl := List.mem_append_right _ (List.mem_append_left _ (List.mem_of_getElem? (i := 230) (by decide +kernel)))
theorem cwu3_6 : (Cond.lays "java/lang/IllegalArgumentException" "java/lang/Throwable" "backtrace" "Ljava/lang/Object;") ∈ lw_tbl := List.mem_append_right _ (List.mem_append_left _ (List.mem_of_getElem? (i := 231) (by decide +kernel)))
theorem cwu3_7 : (Cond.methodLink RX1 86 ⟨"java/lang/IllegalArgumentException", "<init>", "(Ljava/lang/String;)V"⟩) ∈ lw_tbl := List.mem_append_right _ (List.mem_append_left _ (List.mem_of_getElem? (i := 233) (by decide +kernel)))
theorem cwu3_8 : (Cond.instanceMethod ⟨"java/lang/IllegalArgumentException", "<init>", "(Ljava/lang/String;)V"⟩) ∈ lw_tbl := List.mem_append_right _ (List.mem_append_left _ (List.mem_of_getElem? (i := 234) (by decide +kernel)))
theorem cwu3_9 : (Cond.code ⟨"java/lang/IllegalArgumentException", "<init>", "(Ljava/lang/String;)V"⟩ prog_6_method_2_code 2 none) ∈ lw_tbl := List.mem_append_right _ (List.mem_append_left _ (List.mem_of_getElem? (i := 235) (by decide +kernel)))
theorem cwu3_10 : (Cond.methodLink "java/lang/IllegalArgumentException" 7 ⟨"java/lang/RuntimeException", "<init>", "(Ljava/lang/String;)V"⟩) ∈ lw_tbl := List.mem_append_right _ (List.mem_append_left _ (List.mem_of_getElem? (i := 236) (by decide +kernel)))
theorem cwu3_11 : (Cond.lays "java/lang/IllegalArgumentException" "java/lang/Throwable" "depth" "I") ∈ lw_tbl := List.mem_append_right _ (List.mem_append_left _ (List.mem_of_getElem? (i := 237) (by decide +kernel)))
theorem cwu3_12 : (Cond.superclass "java/lang/IllegalArgumentException" "java/lang/RuntimeException") ∈ lw_tbl := List.mem_append_right _ (List.mem_append_left _ (List.mem_of_getElem? (i := 238) (by decide +kernel)))
theorem cwu3_13 : (Cond.methodLink RL 64 yL_rate) ∈ lw_tbl := List.mem_append_right _ (List.mem_append_left _ (List.mem_of_getElem? (i := 239) (by decide +kernel)))
theorem cwu3_14 : (Cond.static yL_rate) ∈ lw_tbl := List.mem_append_right _ (List.mem_append_right _ (List.mem_append_left _ (List.mem_of_getElem? (i := 0) (by decide +kernel))))
theorem cwu3_15 : (Cond.codeWith yL_rate cL_rate 5 (some .int) [(0, 7, 10, 13), (0, 7, 14, 15)]) ∈ lw_tbl := List.mem_append_right _ (List.mem_append_right _ (List.mem_append_left _ (List.mem_of_getElem? (i := 1) (by decide +kernel))))
theorem cwu3_16 : (Cond.methodLink RL 17 yX1_rate) ∈ lw_tbl := List.mem_append_right _ (List.mem_append_right _ (List.mem_append_left _ (List.mem_of_getElem? (i := 2) (by decide +kernel))))
theorem cwu3_17 : (Cond.instanceMethod yX1_rate) ∈ lw_tbl := List.mem_append_right _ (List.mem_append_right _ (List.mem_append_left _ (List.mem_of_getElem? (i := 3) (by decide +kernel))))
theorem cwu3_18 : (Cond.selects RX1 yX1_rate yX1_rate) ∈ lw_tbl := List.mem_append_right _ (List.mem_append_right _ (List.mem_append_left _ (List.mem_of_getElem? (i := 4) (by decide +kernel))))
theorem cwu3_19 : (Cond.code yX1_rate cX1_rate 4 none) ∈ lw_tbl := List.mem_append_right _ (List.mem_append_right _ (List.mem_append_left _ (List.mem_of_getElem? (i := 5) (by decide +kernel))))
theorem cwu3_20 : (Cond.methodLink RX1 71 yX1_checkKind) ∈ lw_tbl := List.mem_append_right _ (List.mem_append_right _ (List.mem_append_left _ (List.mem_of_getElem? (i := 6) (by decide +kernel))))
theorem cwu3_21 : (Cond.static yX1_checkKind) ∈ lw_tbl := List.mem_append_right _ (List.mem_append_right _ (List.mem_append_left _ (List.mem_of_getElem? (i := 7) (by decide +kernel))))
theorem cwu3_22 : (Cond.code yX1_checkKind cX1_checkKind 1 none) ∈ lw_tbl := List.mem_append_right _ (List.mem_append_right _ (List.mem_append_left _ (List.mem_of_getElem? (i := 8) (by decide +kernel))))
theorem cwu3_23 : (Cond.methodLink RL 67 yL_accept) ∈ lw_tbl := List.mem_append_right _ (List.mem_append_right _ (List.mem_append_left _ (List.mem_of_getElem? (i := 10) (by decide +kernel))))
theorem cwu3_24 : (Cond.static yL_accept) ∈ lw_tbl := List.mem_append_right _ (List.mem_append_right _ (List.mem_append_left _ (List.mem_of_getElem? (i := 11) (by decide +kernel))))
theorem cwu3_25 : (Cond.codeWith yL_accept cL_accept 4 (some .int) [(0, 6, 9, 13), (0, 6, 12, 15)]) ∈ lw_tbl := List.mem_append_right _ (List.mem_append_right _ (List.mem_append_left _ (List.mem_of_getElem? (i := 12) (by decide +kernel))))
theorem cwu3_26 : (Cond.methodLink RL 20 yX1_accept) ∈ lw_tbl := List.mem_append_right _ (List.mem_append_right _ (List.mem_append_left _ (List.mem_of_getElem? (i := 13) (by decide +kernel))))
theorem cwu3_27 : (Cond.instanceMethod yX1_accept) ∈ lw_tbl := List.mem_append_right _ (List.mem_append_right _ (List.mem_append_left _ (List.mem_of_getElem? (i := 14) (by decide +kernel))))
theorem cwu3_28 : (Cond.selects RX1 yX1_accept yX1_accept) ∈ lw_tbl := List.mem_append_right _ (List.mem_append_right _ (List.mem_append_left _ (List.mem_of_getElem? (i := 15) (by decide +kernel))))
theorem cwu3_29 : (Cond.code yX1_accept cX1_accept 3 none) ∈ lw_tbl := List.mem_append_right _ (List.mem_append_right _ (List.mem_append_left _ (List.mem_of_getElem? (i := 16) (by decide +kernel))))
theorem cwu3_30 : (Cond.methodLink RL 71 yL_make) ∈ lw_tbl := List.mem_append_right _ (List.mem_append_right _ (List.mem_append_left _ (List.mem_of_getElem? (i := 17) (by decide +kernel))))
theorem cwu3_31 : (Cond.static yL_make) ∈ lw_tbl := List.mem_append_right _ (List.mem_append_right _ (List.mem_append_left _ (List.mem_of_getElem? (i := 18) (by decide +kernel))))
theorem cwu3_32 : (Cond.codeWith yL_make cL_make 5 (some .int) [(0, 7, 10, 13), (0, 7, 14, 15)]) ∈ lw_tbl := List.mem_append_right _ (List.mem_append_right _ (List.mem_append_left _ (List.mem_of_getElem? (i := 19) (by decide +kernel))))
theorem cwu3_33 : (Cond.methodLink RL 24 yX1_make) ∈ lw_tbl := List.mem_append_right _ (List.mem_append_right _ (List.mem_append_left _ (List.mem_of_getElem? (i := 20) (by decide +kernel))))
theorem cwu3_34 : (Cond.instanceMethod yX1_make) ∈ lw_tbl := List.mem_append_right _ (List.mem_append_right _ (List.mem_append_left _ (List.mem_of_getElem? (i := 21) (by decide +kernel))))
theorem cwu3_35 : (Cond.selects RX1 yX1_make yX1_make) ∈ lw_tbl := List.mem_append_right _ (List.mem_append_right _ (List.mem_append_left _ (List.mem_of_getElem? (i := 22) (by decide +kernel))))
theorem cwu3_36 : (Cond.code yX1_make cX1_make 4 none) ∈ lw_tbl := List.mem_append_right _ (List.mem_append_right _ (List.mem_append_left _ (List.mem_of_getElem? (i := 23) (by decide +kernel))))
theorem cwu3_37 : (Cond.methodLink RL 74 yL_wagon) ∈ lw_tbl := List.mem_append_right _ (List.mem_append_right _ (List.mem_append_left _ (List.mem_of_getElem? (i := 25) (by decide +kernel))))
theorem cwu3_38 : (Cond.static yL_wagon) ∈ lw_tbl := List.mem_append_right _ (List.mem_append_right _ (List.mem_append_left _ (List.mem_of_getElem? (i := 26) (by decide +kernel))))
theorem cwu3_39 : (Cond.codeWith yL_wagon cL_wagon 5 (some .int) [(0, 7, 10, 13), (0, 7, 14, 15)]) ∈ lw_tbl := List.mem_append_right _ (List.mem_append_right _ (List.mem_append_left _ (List.mem_of_getElem? (i := 27) (by decide +kernel))))
theorem cwu3_40 : (Cond.methodLink RL 27 yX1_wagon) ∈ lw_tbl := List.mem_append_right _ (List.mem_append_right _ (List.mem_append_left _ (List.mem_of_getElem? (i := 28) (by decide +kernel))))
theorem cwu3_41 : (Cond.instanceMethod yX1_wagon) ∈ lw_tbl := List.mem_append_right _ (List.mem_append_right _ (List.mem_append_left _ (List.mem_of_getElem? (i := 29) (by decide +kernel))))
theorem cwu3_42 : (Cond.selects RX1 yX1_wagon yX1_wagon) ∈ lw_tbl := List.mem_append_right _ (List.mem_append_right _ (List.mem_append_left _ (List.mem_of_getElem? (i := 30) (by decide +kernel))))
theorem cwu3_43 : (Cond.code yX1_wagon cX1_wagon 5 none) ∈ lw_tbl := List.mem_append_right _ (List.mem_append_right _ (List.mem_append_left _ (List.mem_of_getElem? (i := 31) (by decide +kernel))))
theorem cwu3_44 : (Cond.methodLink RX1 89 yX1_checkWagon) ∈ lw_tbl := List.mem_append_right _ (List.mem_append_right _ (List.mem_append_left _ (List.mem_of_getElem? (i := 32) (by decide +kernel))))
theorem cwu3_45 : (Cond.static yX1_checkWagon) ∈ lw_tbl := List.mem_append_right _ (List.mem_append_right _ (List.mem_append_left _ (List.mem_of_getElem? (i := 33) (by decide +kernel))))
theorem cwu3_46 : (Cond.code yX1_checkWagon cX1_checkWagon 1 none) ∈ lw_tbl := List.mem_append_right _ (List.mem_append_right _ (List.mem_append_left _ (List.mem_of_getElem? (i := 34) (by decide +kernel))))
theorem cwu3_47 : (Cond.methodLink RL 77 yL_pass) ∈ lw_tbl := List.mem_append_right _ (List.mem_append_right _ (List.mem_append_left _ (List.mem_of_getElem? (i := 38) (by decide +kernel))))
theorem cwu3_48 : (Cond.static yL_pass) ∈ lw_tbl := List.mem_append_right _ (List.mem_append_right _ (List.mem_append_left _ (List.mem_of_getElem? (i := 39) (by decide +kernel))))
theorem cwu3_49 : (Cond.codeWith yL_pass cL_pass 4 (some .int) [(0, 9, 12, 15)]) ∈ lw_tbl := List.mem_append_right _ (List.mem_append_right _ (List.mem_append_left _ (List.mem_of_getElem? (i := 40) (by decide +kernel))))
theorem cwu3_50 : (Cond.methodLink RL 30 yX1_pass) ∈ lw_tbl := List.mem_append_right _ (List.mem_append_right _ (List.mem_append_left _ (List.mem_of_getElem? (i := 41) (by decide +kernel))))
theorem cwu3_51 : (Cond.instanceMethod yX1_pass) ∈ lw_tbl := List.mem_append_right _ (List.mem_append_right _ (List.mem_append_left _ (List.mem_of_getElem? (i := 42) (by decide +kernel))))
theorem cwu3_52 : (Cond.selects RX1 yX1_pass yX1_pass) ∈ lw_tbl := List.mem_append_right _ (List.mem_append_right _ (List.mem_append_left _ (List.mem_of_getElem? (i := 43) (by decide +kernel))))
theorem cwu3_53 : (Cond.code yX1_pass cX1_pass 5 (some .int)) ∈ lw_tbl := List.mem_append_right _ (List.mem_append_right _ (List.mem_append_left _ (List.mem_of_getElem? (i := 44) (by decide +kernel))))
theorem cwu3_54 : (Cond.methodLink RX1 103 yX1_produceEverywhere) ∈ lw_tbl := List.mem_append_right _ (List.mem_append_right _ (List.mem_append_left _ (List.mem_of_getElem? (i := 46) (by decide +kernel))))
theorem cwu3_55 : (Cond.instanceMethod yX1_produceEverywhere) ∈ lw_tbl := List.mem_append_right _ (List.mem_append_right _ (List.mem_append_left _ (List.mem_of_getElem? (i := 48) (by decide +kernel))))
theorem cwu3_56 : (Cond.code yX1_produceEverywhere cX1_produceEverywhere 3 none) ∈ lw_tbl := List.mem_append_right _ (List.mem_append_right _ (List.mem_append_left _ (List.mem_of_getElem? (i := 49) (by decide +kernel))))
theorem cwu3_57 : (Cond.methodLink RX1 145 yX1_produce) ∈ lw_tbl := List.mem_append_right _ (List.mem_append_right _ (List.mem_append_left _ (List.mem_of_getElem? (i := 50) (by decide +kernel))))
theorem cwu3_58 : (Cond.instanceMethod yX1_produce) ∈ lw_tbl := List.mem_append_right _ (List.mem_append_right _ (List.mem_append_left _ (List.mem_of_getElem? (i := 52) (by decide +kernel))))
theorem cwu3_59 : (Cond.code yX1_produce cX1_produce 7 none) ∈ lw_tbl := List.mem_append_right _ (List.mem_append_right _ (List.mem_append_left _ (List.mem_of_getElem? (i := 53) (by decide +kernel))))
theorem cwt3 : ∀ w ∈ cw3, w ∈ lw_tbl := List.forall_mem_cons.mpr ⟨cwu3_0, List.forall_mem_cons.mpr ⟨cwu3_1, List.forall_mem_cons.mpr ⟨cwu3_2, List.forall_mem_cons.mpr ⟨cwu3_3, List.forall_mem_cons.mpr ⟨cwu3_4, List.forall_mem_cons.mpr ⟨cwu3_5, List.forall_mem_cons.mpr ⟨cwu3_6, List.forall_mem_cons.mpr ⟨cwu3_7, List.forall_mem_cons.mpr ⟨cwu3_8, List.forall_mem_cons.mpr ⟨cwu3_9, List.forall_mem_cons.mpr ⟨cwu3_10, List.forall_mem_cons.mpr ⟨cwu3_11, List.forall_mem_cons.mpr ⟨cwu3_12, List.forall_mem_cons.mpr ⟨cwu3_13, List.forall_mem_cons.mpr ⟨cwu3_14, List.forall_mem_cons.mpr ⟨cwu3_15, List.forall_mem_cons.mpr ⟨cwu3_16, List.forall_mem_cons.mpr ⟨cwu3_17, List.forall_mem_cons.mpr ⟨cwu3_18, List.forall_mem_cons.mpr ⟨cwu3_19, List.forall_mem_cons.mpr ⟨cwu3_20, List.forall_mem_cons.mpr ⟨cwu3_21, List.forall_mem_cons.mpr ⟨cwu3_22, List.forall_mem_cons.mpr ⟨cwu3_23, List.forall_mem_cons.mpr ⟨cwu3_24, List.forall_mem_cons.mpr ⟨cwu3_25, List.forall_mem_cons.mpr ⟨cwu3_26, List.forall_mem_cons.mpr ⟨cwu3_27, List.forall_mem_cons.mpr ⟨cwu3_28, List.forall_mem_cons.mpr ⟨cwu3_29, List.forall_mem_cons.mpr ⟨cwu3_30, List.forall_mem_cons.mpr ⟨cwu3_31, List.forall_mem_cons.mpr ⟨cwu3_32, List.forall_mem_cons.mpr ⟨cwu3_33, List.forall_mem_cons.mpr ⟨cwu3_34, List.forall_mem_cons.mpr ⟨cwu3_35, List.forall_mem_cons.mpr ⟨cwu3_36, List.forall_mem_cons.mpr ⟨cwu3_37, List.forall_mem_cons.mpr ⟨cwu3_38, List.forall_mem_cons.mpr ⟨cwu3_39, List.forall_mem_cons.mpr ⟨cwu3_40, List.forall_mem_cons.mpr ⟨cwu3_41, List.forall_mem_cons.mpr ⟨cwu3_42, List.forall_mem_cons.mpr ⟨cwu3_43, List.forall_mem_cons.mpr ⟨cwu3_44, List.forall_mem_cons.mpr ⟨cwu3_45, List.forall_mem_cons.mpr ⟨cwu3_46, List.forall_mem_cons.mpr ⟨cwu3_47, List.forall_mem_cons.mpr ⟨cwu3_48, List.forall_mem_cons.mpr ⟨cwu3_49, List.forall_mem_cons.mpr ⟨cwu3_50, List.forall_mem_cons.mpr ⟨cwu3_51, List.forall_mem_cons.mpr ⟨cwu3_52, List.forall_mem_cons.mpr ⟨cwu3_53, List.forall_mem_cons.mpr ⟨cwu3_54, List.forall_mem_cons.mpr ⟨cwu3_55, List.forall_mem_cons.mpr ⟨cwu3_56, List.forall_mem_cons.mpr ⟨cwu3_57, List.forall_mem_cons.mpr ⟨cwu3_58, List.forall_mem_cons.mpr ⟨cwu3_59, fun _ h => absurd h List.not_mem_nil⟩⟩⟩⟩⟩⟩⟩⟩⟩⟩⟩⟩⟩⟩⟩⟩⟩⟩⟩⟩⟩⟩⟩⟩⟩⟩⟩⟩⟩⟩⟩⟩⟩⟩⟩⟩⟩⟩⟩⟩⟩⟩⟩⟩⟩⟩⟩⟩⟩⟩⟩⟩⟩⟩⟩⟩⟩⟩⟩⟩
theorem cwi4 {w : Cond} (h : w ∈ cw4) : w ∈ cwL := List.mem_append_right _ (List.mem_append_right _ (List.mem_append_right _ (List.mem_append_right _ (List.mem_append_left _ h))))
theorem cwg4 : cw4.all goodWord = true := by decide +kernel
theorem cwu4_0 : (Cond.methodLink RX1 149 Lib.Math.min.name) ∈ lw_tbl := List.mem_append_right _ (List.mem_append_right _ (List.mem_append_left _ (List.mem_of_getElem? (i := 54) (by decide +kernel))))
theorem cwu4_1 : (Cond.static Lib.Math.min.name) ∈ lw_tbl := List.mem_append_right _ (List.mem_append_right _ (List.mem_append_left _ (List.mem_of_getElem? (i := 55) (by decide +kernel))))
theorem cwu4_2 : (Cond.code Lib.Math.min.name Lib.Math.min.code 2 (some .int)) ∈ lw_tbl := List.mem_append_right _ (List.mem_append_right _ (List.mem_append_left _ (List.mem_of_getElem? (i := 56) (by decide +kernel))))
theorem cwu4_3 : (Cond.methodLink RX1 154 yX0_putBehind) ∈ lw_tbl := List.mem_append_right _ (List.mem_append_right _ (List.mem_append_left _ (List.mem_of_getElem? (i := 57) (by decide +kernel))))
theorem cwu4_4 : (Cond.instanceMethod yX0_putBehind) ∈ lw_tbl := List.mem_append_right _ (List.mem_append_right _ (List.mem_append_left _ (List.mem_of_getElem? (i := 58) (by decide +kernel))))
theorem cwu4_5 : (Cond.selects RX0 yX0_putBehind yX0_putBehind) ∈ lw_tbl := List.mem_append_right _ (List.mem_append_right _ (List.mem_append_left _ (List.mem_of_getElem? (i := 59) (by decide +kernel))))
theorem cwu4_6 : (Cond.code yX0_putBehind cX0_putBehind 4 none) ∈ lw_tbl := List.mem_append_right _ (List.mem_append_right _ (List.mem_append_left _ (List.mem_of_getElem? (i := 60) (by decide +kernel))))
theorem cwu4_7 : (Cond.methodLink RX0 28 yX0_lastIs) ∈ lw_tbl := List.mem_append_right _ (List.mem_append_right _ (List.mem_append_left _ (List.mem_of_getElem? (i := 61) (by decide +kernel))))
theorem cwu4_8 : (Cond.instanceMethod yX0_lastIs) ∈ lw_tbl := List.mem_append_right _ (List.mem_append_right _ (List.mem_append_left _ (List.mem_of_getElem? (i := 63) (by decide +kernel))))
theorem cwu4_9 : (Cond.code yX0_lastIs cX0_lastIs 4 (some .boolean)) ∈ lw_tbl := List.mem_append_right _ (List.mem_append_right _ (List.mem_append_left _ (List.mem_of_getElem? (i := 64) (by decide +kernel))))
theorem cwu4_10 : (Cond.methodLink RL 81 yL_load) ∈ lw_tbl := List.mem_append_right _ (List.mem_append_right _ (List.mem_append_left _ (List.mem_of_getElem? (i := 65) (by decide +kernel))))
theorem cwu4_11 : (Cond.static yL_load) ∈ lw_tbl := List.mem_append_right _ (List.mem_append_right _ (List.mem_append_left _ (List.mem_of_getElem? (i := 66) (by decide +kernel))))
theorem cwu4_12 : (Cond.codeWith yL_load cL_load 6 (some .int) [(0, 12, 15, 13), (0, 12, 19, 15)]) ∈ lw_tbl := List.mem_append_right _ (List.mem_append_right _ (List.mem_append_left _ (List.mem_of_getElem? (i := 67) (by decide +kernel))))
theorem cwu4_13 : (Cond.methodLink RL 34 yX1_load) ∈ lw_tbl := List.mem_append_right _ (List.mem_append_right _ (List.mem_append_left _ (List.mem_of_getElem? (i := 68) (by decide +kernel))))
theorem cwu4_14 : (Cond.instanceMethod yX1_load) ∈ lw_tbl := List.mem_append_right _ (List.mem_append_right _ (List.mem_append_left _ (List.mem_of_getElem? (i := 69) (by decide +kernel))))
theorem cwu4_15 : (Cond.selects RX1 yX1_load yX1_load) ∈ lw_tbl := List.mem_append_right _ (List.mem_append_right _ (List.mem_append_left _ (List.mem_of_getElem? (i := 70) (by decide +kernel))))
theorem cwu4_16 : (Cond.code yX1_load cX1_load 5 (some .int)) ∈ lw_tbl := List.mem_append_right _ (List.mem_append_right _ (List.mem_append_left _ (List.mem_of_getElem? (i := 71) (by decide +kernel))))
theorem cwu4_17 : (Cond.methodLink RX1 106 yX1_checkNotBelowZero) ∈ lw_tbl := List.mem_append_right _ (List.mem_append_right _ (List.mem_append_left _ (List.mem_of_getElem? (i := 72) (by decide +kernel))))
theorem cwu4_18 : (Cond.static yX1_checkNotBelowZero) ∈ lw_tbl := List.mem_append_right _ (List.mem_append_right _ (List.mem_append_left _ (List.mem_of_getElem? (i := 73) (by decide +kernel))))
theorem cwu4_19 : (Cond.code yX1_checkNotBelowZero cX1_checkNotBelowZero 1 none) ∈ lw_tbl := List.mem_append_right _ (List.mem_append_right _ (List.mem_append_left _ (List.mem_of_getElem? (i := 74) (by decide +kernel))))
theorem cwu4_20 : (Cond.methodLink RX1 109 yX0_moveTo) ∈ lw_tbl := List.mem_append_right _ (List.mem_append_right _ (List.mem_append_left _ (List.mem_of_getElem? (i := 76) (by decide +kernel))))
theorem cwu4_21 : (Cond.instanceMethod yX0_moveTo) ∈ lw_tbl := List.mem_append_right _ (List.mem_append_right _ (List.mem_append_left _ (List.mem_of_getElem? (i := 77) (by decide +kernel))))
theorem cwu4_22 : (Cond.selects RX0 yX0_moveTo yX0_moveTo) ∈ lw_tbl := List.mem_append_right _ (List.mem_append_right _ (List.mem_append_left _ (List.mem_of_getElem? (i := 78) (by decide +kernel))))
theorem cwu4_23 : (Cond.code yX0_moveTo cX0_moveTo 8 (some .int)) ∈ lw_tbl := List.mem_append_right _ (List.mem_append_right _ (List.mem_append_left _ (List.mem_of_getElem? (i := 79) (by decide +kernel))))
theorem cwu4_24 : (Cond.methodLink RX0 35 Lib.Math.min.name) ∈ lw_tbl := List.mem_append_right _ (List.mem_append_right _ (List.mem_append_left _ (List.mem_of_getElem? (i := 80) (by decide +kernel))))
theorem cwu4_25 : (Cond.methodLink RX0 41 yX0_putBehind) ∈ lw_tbl := List.mem_append_right _ (List.mem_append_right _ (List.mem_append_left _ (List.mem_of_getElem? (i := 81) (by decide +kernel))))
theorem cwu4_26 : (Cond.methodLink RX0 45 yX0_takeFromFirst) ∈ lw_tbl := List.mem_append_right _ (List.mem_append_right _ (List.mem_append_left _ (List.mem_of_getElem? (i := 82) (by decide +kernel))))
theorem cwu4_27 : (Cond.instanceMethod yX0_takeFromFirst) ∈ lw_tbl := List.mem_append_right _ (List.mem_append_right _ (List.mem_append_left _ (List.mem_of_getElem? (i := 83) (by decide +kernel))))
theorem cwu4_28 : (Cond.selects RX0 yX0_takeFromFirst yX0_takeFromFirst) ∈ lw_tbl := List.mem_append_right _ (List.mem_append_right _ (List.mem_append_left _ (List.mem_of_getElem? (i := 84) (by decide +kernel))))
theorem cwu4_29 : (Cond.code yX0_takeFromFirst cX0_takeFromFirst 2 none) ∈ lw_tbl := List.mem_append_right _ (List.mem_append_right _ (List.mem_append_left _ (List.mem_of_getElem? (i := 85) (by decide +kernel))))
theorem cwu4_30 : (Cond.methodLink RX0 32 yX0_dropFirst) ∈ lw_tbl := List.mem_append_right _ (List.mem_append_right _ (List.mem_append_left _ (List.mem_of_getElem? (i := 86) (by decide +kernel))))
theorem cwu4_31 : (Cond.instanceMethod yX0_dropFirst) ∈ lw_tbl := List.mem_append_right _ (List.mem_append_right _ (List.mem_append_left _ (List.mem_of_getElem? (i := 88) (by decide +kernel))))
theorem cwu4_32 : (Cond.code yX0_dropFirst cX0_dropFirst 2 none) ∈ lw_tbl := List.mem_append_right _ (List.mem_append_right _ (List.mem_append_left _ (List.mem_of_getElem? (i := 89) (by decide +kernel))))
theorem cwu4_33 : (Cond.methodLink RL 85 yL_unload) ∈ lw_tbl := List.mem_append_right _ (List.mem_append_right _ (List.mem_append_left _ (List.mem_of_getElem? (i := 90) (by decide +kernel))))
theorem cwu4_34 : (Cond.static yL_unload) ∈ lw_tbl := List.mem_append_right _ (List.mem_append_right _ (List.mem_append_left _ (List.mem_of_getElem? (i := 91) (by decide +kernel))))
theorem cwu4_35 : (Cond.codeWith yL_unload cL_unload 6 (some .int) [(0, 12, 15, 13), (0, 12, 19, 15)]) ∈ lw_tbl := List.mem_append_right _ (List.mem_append_right _ (List.mem_append_left _ (List.mem_of_getElem? (i := 92) (by decide +kernel))))
theorem cwu4_36 : (Cond.methodLink RL 38 yX1_unload) ∈ lw_tbl := List.mem_append_right _ (List.mem_append_right _ (List.mem_append_left _ (List.mem_of_getElem? (i := 93) (by decide +kernel))))
theorem cwu4_37 : (Cond.instanceMethod yX1_unload) ∈ lw_tbl := List.mem_append_right _ (List.mem_append_right _ (List.mem_append_left _ (List.mem_of_getElem? (i := 94) (by decide +kernel))))
theorem cwu4_38 : (Cond.selects RX1 yX1_unload yX1_unload) ∈ lw_tbl := List.mem_append_right _ (List.mem_append_right _ (List.mem_append_left _ (List.mem_of_getElem? (i := 95) (by decide +kernel))))
theorem cwu4_39 : (Cond.code yX1_unload cX1_unload 5 (some .int)) ∈ lw_tbl := List.mem_append_right _ (List.mem_append_right _ (List.mem_append_left _ (List.mem_of_getElem? (i := 96) (by decide +kernel))))
theorem cwu4_40 : (Cond.methodLink RX1 113 yX1_deliverFrom) ∈ lw_tbl := List.mem_append_right _ (List.mem_append_right _ (List.mem_append_left _ (List.mem_of_getElem? (i := 97) (by decide +kernel))))
theorem cwu4_41 : (Cond.instanceMethod yX1_deliverFrom) ∈ lw_tbl := List.mem_append_right _ (List.mem_append_right _ (List.mem_append_left _ (List.mem_of_getElem? (i := 99) (by decide +kernel))))
theorem cwu4_42 : (Cond.code yX1_deliverFrom cX1_deliverFrom 9 (some .int)) ∈ lw_tbl := List.mem_append_right _ (List.mem_append_right _ (List.mem_append_left _ (List.mem_of_getElem? (i := 100) (by decide +kernel))))
theorem cwu4_43 : (Cond.methodLink RX1 157 yX1_payOfOne) ∈ lw_tbl := List.mem_append_right _ (List.mem_append_right _ (List.mem_append_left _ (List.mem_of_getElem? (i := 101) (by decide +kernel))))
theorem cwu4_44 : (Cond.instanceMethod yX1_payOfOne) ∈ lw_tbl := List.mem_append_right _ (List.mem_append_right _ (List.mem_append_left _ (List.mem_of_getElem? (i := 103) (by decide +kernel))))
theorem cwu4_45 : (Cond.code yX1_payOfOne cX1_payOfOne 7 (some .int)) ∈ lw_tbl := List.mem_append_right _ (List.mem_append_right _ (List.mem_append_left _ (List.mem_of_getElem? (i := 104) (by decide +kernel))))
theorem cwu4_46 : (Cond.methodLink RX1 167 Lib.Math.abs.name) ∈ lw_tbl := List.mem_append_right _ (List.mem_append_right _ (List.mem_append_left _ (List.mem_of_getElem? (i := 105) (by decide +kernel))))
theorem cwu4_47 : (Cond.static Lib.Math.abs.name) ∈ lw_tbl := List.mem_append_right _ (List.mem_append_right _ (List.mem_append_left _ (List.mem_of_getElem? (i := 106) (by decide +kernel))))
theorem cwu4_48 : (Cond.code Lib.Math.abs.name Lib.Math.abs.code 1 (some .int)) ∈ lw_tbl := List.mem_append_right _ (List.mem_append_right _ (List.mem_append_left _ (List.mem_of_getElem? (i := 107) (by decide +kernel))))
theorem cwu4_49 : (Cond.methodLink RX1 170 Lib.Math.max.name) ∈ lw_tbl := List.mem_append_right _ (List.mem_append_right _ (List.mem_append_left _ (List.mem_of_getElem? (i := 108) (by decide +kernel))))
theorem cwu4_50 : (Cond.static Lib.Math.max.name) ∈ lw_tbl := List.mem_append_right _ (List.mem_append_right _ (List.mem_append_left _ (List.mem_of_getElem? (i := 109) (by decide +kernel))))
theorem cwu4_51 : (Cond.code Lib.Math.max.name Lib.Math.max.code 2 (some .int)) ∈ lw_tbl := List.mem_append_right _ (List.mem_append_right _ (List.mem_append_left _ (List.mem_of_getElem? (i := 110) (by decide +kernel))))
theorem cwu4_52 : (Cond.methodLink RX1 161 yX1_earn) ∈ lw_tbl := List.mem_append_right _ (List.mem_append_right _ (List.mem_append_left _ (List.mem_of_getElem? (i := 111) (by decide +kernel))))
theorem cwu4_53 : (Cond.instanceMethod yX1_earn) ∈ lw_tbl := List.mem_append_right _ (List.mem_append_right _ (List.mem_append_left _ (List.mem_of_getElem? (i := 113) (by decide +kernel))))
theorem cwu4_54 : (Cond.code yX1_earn cX1_earn 4 none) ∈ lw_tbl := List.mem_append_right _ (List.mem_append_right _ (List.mem_append_left _ (List.mem_of_getElem? (i := 114) (by decide +kernel))))
theorem cwu4_55 : (Cond.methodLink RX1 164 yX0_takeFromFirst) ∈ lw_tbl := List.mem_append_right _ (List.mem_append_right _ (List.mem_append_left _ (List.mem_of_getElem? (i := 115) (by decide +kernel))))
theorem cwu4_56 : (Cond.methodLink RL 88 yL_pour) ∈ lw_tbl := List.mem_append_right _ (List.mem_append_right _ (List.mem_append_left _ (List.mem_of_getElem? (i := 116) (by decide +kernel))))
theorem cwu4_57 : (Cond.static yL_pour) ∈ lw_tbl := List.mem_append_right _ (List.mem_append_right _ (List.mem_append_left _ (List.mem_of_getElem? (i := 117) (by decide +kernel))))
theorem cwu4_58 : (Cond.codeWith yL_pour cL_pour 4 (some .int) [(0, 6, 9, 13), (0, 6, 12, 15)]) ∈ lw_tbl := List.mem_append_right _ (List.mem_append_right _ (List.mem_append_left _ (List.mem_of_getElem? (i := 118) (by decide +kernel))))
theorem cwu4_59 : (Cond.methodLink RL 41 yX1_pour) ∈ lw_tbl := List.mem_append_right _ (List.mem_append_right _ (List.mem_append_left _ (List.mem_of_getElem? (i := 119) (by decide +kernel))))
theorem cwt4 : ∀ w ∈ cw4, w ∈ lw_tbl := List.forall_mem_cons.mpr ⟨cwu4_0, List.forall_mem_cons.mpr ⟨cwu4_1, List.forall_mem_cons.mpr ⟨cwu4_2, List.forall_mem_cons.mpr ⟨cwu4_3, List.forall_mem_cons.mpr ⟨cwu4_4, List.forall_mem_cons.mpr ⟨cwu4_5, List.forall_mem_cons.mpr ⟨cwu4_6, List.forall_mem_cons.mpr ⟨cwu4_7, List.forall_mem_cons.mpr ⟨cwu4_8, List.forall_mem_cons.mpr ⟨cwu4_9, List.forall_mem_cons.mpr ⟨cwu4_10, List.forall_mem_cons.mpr ⟨cwu4_11, List.forall_mem_cons.mpr ⟨cwu4_12, List.forall_mem_cons.mpr ⟨cwu4_13, List.forall_mem_cons.mpr ⟨cwu4_14, List.forall_mem_cons.mpr ⟨cwu4_15, List.forall_mem_cons.mpr ⟨cwu4_16, List.forall_mem_cons.mpr ⟨cwu4_17, List.forall_mem_cons.mpr ⟨cwu4_18, List.forall_mem_cons.mpr ⟨cwu4_19, List.forall_mem_cons.mpr ⟨cwu4_20, List.forall_mem_cons.mpr ⟨cwu4_21, List.forall_mem_cons.mpr ⟨cwu4_22, List.forall_mem_cons.mpr ⟨cwu4_23, List.forall_mem_cons.mpr ⟨cwu4_24, List.forall_mem_cons.mpr ⟨cwu4_25, List.forall_mem_cons.mpr ⟨cwu4_26, List.forall_mem_cons.mpr ⟨cwu4_27, List.forall_mem_cons.mpr ⟨cwu4_28, List.forall_mem_cons.mpr ⟨cwu4_29, List.forall_mem_cons.mpr ⟨cwu4_30, List.forall_mem_cons.mpr ⟨cwu4_31, List.forall_mem_cons.mpr ⟨cwu4_32, List.forall_mem_cons.mpr ⟨cwu4_33, List.forall_mem_cons.mpr ⟨cwu4_34, List.forall_mem_cons.mpr ⟨cwu4_35, List.forall_mem_cons.mpr ⟨cwu4_36, List.forall_mem_cons.mpr ⟨cwu4_37, List.forall_mem_cons.mpr ⟨cwu4_38, List.forall_mem_cons.mpr ⟨cwu4_39, List.forall_mem_cons.mpr ⟨cwu4_40, List.forall_mem_cons.mpr ⟨cwu4_41, List.forall_mem_cons.mpr ⟨cwu4_42, List.forall_mem_cons.mpr ⟨cwu4_43, List.forall_mem_cons.mpr ⟨cwu4_44, List.forall_mem_cons.mpr ⟨cwu4_45, List.forall_mem_cons.mpr ⟨cwu4_46, List.forall_mem_cons.mpr ⟨cwu4_47, List.forall_mem_cons.mpr ⟨cwu4_48, List.forall_mem_cons.mpr ⟨cwu4_49, List.forall_mem_cons.mpr ⟨cwu4_50, List.forall_mem_cons.mpr ⟨cwu4_51, List.forall_mem_cons.mpr ⟨cwu4_52, List.forall_mem_cons.mpr ⟨cwu4_53, List.forall_mem_cons.mpr ⟨cwu4_54, List.forall_mem_cons.mpr ⟨cwu4_55, List.forall_mem_cons.mpr ⟨cwu4_56, List.forall_mem_cons.mpr ⟨cwu4_57, List.forall_mem_cons.mpr ⟨cwu4_58, List.forall_mem_cons.mpr ⟨cwu4_59, fun _ h => absurd h List.not_mem_nil⟩⟩⟩⟩⟩⟩⟩⟩⟩⟩⟩⟩⟩⟩⟩⟩⟩⟩⟩⟩⟩⟩⟩⟩⟩⟩⟩⟩⟩⟩⟩⟩⟩⟩⟩⟩⟩⟩⟩⟩⟩⟩⟩⟩⟩⟩⟩⟩⟩⟩⟩⟩⟩⟩⟩⟩⟩⟩⟩⟩
theorem cwi5 {w : Cond} (h : w ∈ cw5) : w ∈ cwL := List.mem_append_right _ (List.mem_append_right _ (List.mem_append_right _ (List.mem_append_right _ (List.mem_append_right _ (List.mem_append_left _ h)))))
theorem cwg5 : cw5.all goodWord = true := by decide +kernel
theorem cwu5_0 : (Cond.instanceMethod yX1_pour) ∈ lw_tbl := List.mem_append_right _ (List.mem_append_right _ (List.mem_append_left _ (List.mem_of_getElem? (i := 120) (by decide +kernel))))
theorem cwu5_1 : (Cond.selects RX1 yX1_pour yX1_pour) ∈ lw_tbl := List.mem_append_right _ (List.mem_append_right _ (List.mem_append_left _ (List.mem_of_getElem? (i := 121) (by decide +kernel))))
theorem cwu5_2 : (Cond.code yX1_pour cX1_pour 4 none) ∈ lw_tbl := List.mem_append_right _ (List.mem_append_right _ (List.mem_append_left _ (List.mem_of_getElem? (i := 122) (by decide +kernel))))
theorem cwu5_3 : (Cond.methodLink RX1 117 yX1_checkFellows) ∈ lw_tbl := List.mem_append_right _ (List.mem_append_right _ (List.mem_append_left _ (List.mem_of_getElem? (i := 123) (by decide +kernel))))
theorem cwu5_4 : (Cond.instanceMethod yX1_checkFellows) ∈ lw_tbl := List.mem_append_right _ (List.mem_append_right _ (List.mem_append_left _ (List.mem_of_getElem? (i := 125) (by decide +kernel))))
theorem cwu5_5 : (Cond.code yX1_checkFellows cX1_checkFellows 3 none) ∈ lw_tbl := List.mem_append_right _ (List.mem_append_right _ (List.mem_append_left _ (List.mem_of_getElem? (i := 126) (by decide +kernel))))
theorem cwu5_6 : (Cond.methodLink RL 91 yL_part) ∈ lw_tbl := List.mem_append_right _ (List.mem_append_right _ (List.mem_append_left _ (List.mem_of_getElem? (i := 130) (by decide +kernel))))
theorem cwu5_7 : (Cond.static yL_part) ∈ lw_tbl := List.mem_append_right _ (List.mem_append_right _ (List.mem_append_left _ (List.mem_of_getElem? (i := 131) (by decide +kernel))))
theorem cwu5_8 : (Cond.codeWith yL_part cL_part 5 (some .int) [(0, 7, 10, 13), (0, 7, 14, 15)]) ∈ lw_tbl := List.mem_append_right _ (List.mem_append_right _ (List.mem_append_left _ (List.mem_of_getElem? (i := 132) (by decide +kernel))))
theorem cwu5_9 : (Cond.methodLink RL 44 yX1_part) ∈ lw_tbl := List.mem_append_right _ (List.mem_append_right _ (List.mem_append_left _ (List.mem_of_getElem? (i := 133) (by decide +kernel))))
theorem cwu5_10 : (Cond.instanceMethod yX1_part) ∈ lw_tbl := List.mem_append_right _ (List.mem_append_right _ (List.mem_append_left _ (List.mem_of_getElem? (i := 134) (by decide +kernel))))
theorem cwu5_11 : (Cond.selects RX1 yX1_part yX1_part) ∈ lw_tbl := List.mem_append_right _ (List.mem_append_right _ (List.mem_append_left _ (List.mem_of_getElem? (i := 135) (by decide +kernel))))
theorem cwu5_12 : (Cond.code yX1_part cX1_part 4 none) ∈ lw_tbl := List.mem_append_right _ (List.mem_append_right _ (List.mem_append_left _ (List.mem_of_getElem? (i := 136) (by decide +kernel))))
theorem cwu5_13 : (Cond.methodLink RX1 124 yX0_moveAllBehind) ∈ lw_tbl := List.mem_append_right _ (List.mem_append_right _ (List.mem_append_left _ (List.mem_of_getElem? (i := 138) (by decide +kernel))))
theorem cwu5_14 : (Cond.instanceMethod yX0_moveAllBehind) ∈ lw_tbl := List.mem_append_right _ (List.mem_append_right _ (List.mem_append_left _ (List.mem_of_getElem? (i := 139) (by decide +kernel))))
theorem cwu5_15 : (Cond.selects RX0 yX0_moveAllBehind yX0_moveAllBehind) ∈ lw_tbl := List.mem_append_right _ (List.mem_append_right _ (List.mem_append_left _ (List.mem_of_getElem? (i := 140) (by decide +kernel))))
theorem cwu5_16 : (Cond.code yX0_moveAllBehind cX0_moveAllBehind 8 none) ∈ lw_tbl := List.mem_append_right _ (List.mem_append_right _ (List.mem_append_left _ (List.mem_of_getElem? (i := 141) (by decide +kernel))))
theorem cwu5_17 : (Cond.methodLink RL 94 yL_dump) ∈ lw_tbl := List.mem_append_right _ (List.mem_append_right _ (List.mem_append_left _ (List.mem_of_getElem? (i := 142) (by decide +kernel))))
theorem cwu5_18 : (Cond.static yL_dump) ∈ lw_tbl := List.mem_append_right _ (List.mem_append_right _ (List.mem_append_left _ (List.mem_of_getElem? (i := 143) (by decide +kernel))))
theorem cwu5_19 : (Cond.codeWith yL_dump cL_dump 4 (some .int) [(0, 9, 12, 13)]) ∈ lw_tbl := List.mem_append_right _ (List.mem_append_right _ (List.mem_append_left _ (List.mem_of_getElem? (i := 144) (by decide +kernel))))
theorem cwu5_20 : (Cond.methodLink RL 47 yX1_dump) ∈ lw_tbl := List.mem_append_right _ (List.mem_append_right _ (List.mem_append_left _ (List.mem_of_getElem? (i := 145) (by decide +kernel))))
theorem cwu5_21 : (Cond.instanceMethod yX1_dump) ∈ lw_tbl := List.mem_append_right _ (List.mem_append_right _ (List.mem_append_left _ (List.mem_of_getElem? (i := 146) (by decide +kernel))))
theorem cwu5_22 : (Cond.selects RX1 yX1_dump yX1_dump) ∈ lw_tbl := List.mem_append_right _ (List.mem_append_right _ (List.mem_append_left _ (List.mem_of_getElem? (i := 147) (by decide +kernel))))
theorem cwu5_23 : (Cond.code yX1_dump cX1_dump 3 (some .int)) ∈ lw_tbl := List.mem_append_right _ (List.mem_append_right _ (List.mem_append_left _ (List.mem_of_getElem? (i := 148) (by decide +kernel))))
theorem cwu5_24 : (Cond.methodLink RX1 128 yX0_clear) ∈ lw_tbl := List.mem_append_right _ (List.mem_append_right _ (List.mem_append_left _ (List.mem_of_getElem? (i := 149) (by decide +kernel))))
theorem cwu5_25 : (Cond.instanceMethod yX0_clear) ∈ lw_tbl := List.mem_append_right _ (List.mem_append_right _ (List.mem_append_left _ (List.mem_of_getElem? (i := 150) (by decide +kernel))))
theorem cwu5_26 : (Cond.selects RX0 yX0_clear yX0_clear) ∈ lw_tbl := List.mem_append_right _ (List.mem_append_right _ (List.mem_append_left _ (List.mem_of_getElem? (i := 151) (by decide +kernel))))
theorem cwu5_27 : (Cond.code yX0_clear cX0_clear 1 none) ∈ lw_tbl := List.mem_append_right _ (List.mem_append_right _ (List.mem_append_left _ (List.mem_of_getElem? (i := 152) (by decide +kernel))))
theorem cwu5_28 : (Cond.classLink RL 51 RX2) ∈ lw_tbl := List.mem_append_right _ (List.mem_append_right _ (List.mem_append_left _ (List.mem_of_getElem? (i := 153) (by decide +kernel))))
theorem cwu5_29 : (Cond.instantiable RX2 18) ∈ lw_tbl := List.mem_append_right _ (List.mem_append_right _ (List.mem_append_left _ (List.mem_of_getElem? (i := 154) (by decide +kernel))))
theorem cwu5_30 : (Cond.methodLink RL 53 yX2_init) ∈ lw_tbl := List.mem_append_right _ (List.mem_append_right _ (List.mem_append_left _ (List.mem_of_getElem? (i := 155) (by decide +kernel))))
theorem cwu5_31 : (Cond.instanceMethod yX2_init) ∈ lw_tbl := List.mem_append_right _ (List.mem_append_right _ (List.mem_append_left _ (List.mem_of_getElem? (i := 156) (by decide +kernel))))
theorem cwu5_32 : (Cond.code yX2_init cX2_init 2 none) ∈ lw_tbl := List.mem_append_right _ (List.mem_append_right _ (List.mem_append_left _ (List.mem_of_getElem? (i := 157) (by decide +kernel))))
theorem cwu5_33 : (Cond.methodLink RX2 1 objectInit) ∈ lw_tbl := List.mem_append_right _ (List.mem_append_right _ (List.mem_append_left _ (List.mem_of_getElem? (i := 158) (by decide +kernel))))
theorem cwu5_34 : (Cond.constant RX2 38 (49000)) ∈ lw_tbl := List.mem_append_right _ (List.mem_append_right _ (List.mem_append_left _ (List.mem_of_getElem? (i := 159) (by decide +kernel))))
theorem cwu5_35 : (Cond.fieldLink RX2 54 RX2 "thrown" "I") ∈ lw_tbl := List.mem_append_right _ (List.mem_append_right _ (List.mem_append_left _ (List.mem_of_getElem? (i := 160) (by decide +kernel))))
theorem cwu5_36 : (Cond.fieldLink RX2 74 RX2 "time" "I") ∈ lw_tbl := List.mem_append_right _ (List.mem_append_right _ (List.mem_append_left _ (List.mem_of_getElem? (i := 161) (by decide +kernel))))
theorem cwu5_37 : (Cond.fieldLink RX2 7 RX2 "money" "I") ∈ lw_tbl := List.mem_append_right _ (List.mem_append_right _ (List.mem_append_left _ (List.mem_of_getElem? (i := 162) (by decide +kernel))))
theorem cwu5_38 : (Cond.fieldLink RX2 91 RX2 "earned" "I") ∈ lw_tbl := List.mem_append_right _ (List.mem_append_right _ (List.mem_append_left _ (List.mem_of_getElem? (i := 163) (by decide +kernel))))
theorem cwu5_39 : (Cond.fieldLink RX2 98 RX2 "spent" "I") ∈ lw_tbl := List.mem_append_right _ (List.mem_append_right _ (List.mem_append_left _ (List.mem_of_getElem? (i := 164) (by decide +kernel))))
theorem cwu5_40 : (Cond.fieldLink RX2 13 RX2 "columns" "[I") ∈ lw_tbl := List.mem_append_right _ (List.mem_append_right _ (List.mem_append_left _ (List.mem_of_getElem? (i := 165) (by decide +kernel))))
theorem cwu5_41 : (Cond.fieldLink RX2 17 RX2 "lines" "[I") ∈ lw_tbl := List.mem_append_right _ (List.mem_append_right _ (List.mem_append_left _ (List.mem_of_getElem? (i := 166) (by decide +kernel))))
theorem cwu5_42 : (Cond.fieldLink RX2 20 RX2 "accepts" "[I") ∈ lw_tbl := List.mem_append_right _ (List.mem_append_right _ (List.mem_append_left _ (List.mem_of_getElem? (i := 167) (by decide +kernel))))
theorem cwu5_43 : (Cond.fieldLink RX2 23 RX2 "rates" "[I") ∈ lw_tbl := List.mem_append_right _ (List.mem_append_right _ (List.mem_append_left _ (List.mem_of_getElem? (i := 168) (by decide +kernel))))
theorem cwu5_44 : (Cond.fieldLink RX2 26 RX2 "made" "[I") ∈ lw_tbl := List.mem_append_right _ (List.mem_append_right _ (List.mem_append_left _ (List.mem_of_getElem? (i := 169) (by decide +kernel))))
theorem cwu5_45 : (Cond.fieldLink RX2 29 RX2 "wagonKind" "[I") ∈ lw_tbl := List.mem_append_right _ (List.mem_append_right _ (List.mem_append_left _ (List.mem_of_getElem? (i := 170) (by decide +kernel))))
theorem cwu5_46 : (Cond.fieldLink RX2 32 RX2 "wagonRoom" "[I") ∈ lw_tbl := List.mem_append_right _ (List.mem_append_right _ (List.mem_append_left _ (List.mem_of_getElem? (i := 171) (by decide +kernel))))
theorem cwu5_47 : (Cond.fieldLink RX2 35 RX2 "size" "[I") ∈ lw_tbl := List.mem_append_right _ (List.mem_append_right _ (List.mem_append_left _ (List.mem_of_getElem? (i := 172) (by decide +kernel))))
theorem cwu5_48 : (Cond.fieldLink RX2 39 RX2 "origins" "[I") ∈ lw_tbl := List.mem_append_right _ (List.mem_append_right _ (List.mem_append_left _ (List.mem_of_getElem? (i := 173) (by decide +kernel))))
theorem cwu5_49 : (Cond.fieldLink RX2 42 RX2 "born" "[I") ∈ lw_tbl := List.mem_append_right _ (List.mem_append_right _ (List.mem_append_left _ (List.mem_of_getElem? (i := 174) (by decide +kernel))))
theorem cwu5_50 : (Cond.fieldLink RX2 45 RX2 "produced" "[I") ∈ lw_tbl := List.mem_append_right _ (List.mem_append_right _ (List.mem_append_left _ (List.mem_of_getElem? (i := 175) (by decide +kernel))))
theorem cwu5_51 : (Cond.fieldLink RX2 48 RX2 "delivered" "[I") ∈ lw_tbl := List.mem_append_right _ (List.mem_append_right _ (List.mem_append_left _ (List.mem_of_getElem? (i := 176) (by decide +kernel))))
theorem cwu5_52 : (Cond.fieldLink RX2 51 RX2 "dumped" "[I") ∈ lw_tbl := List.mem_append_right _ (List.mem_append_right _ (List.mem_append_left _ (List.mem_of_getElem? (i := 177) (by decide +kernel))))
theorem cwu5_53 : (Cond.lays RX2 RX2 "thrown" "I") ∈ lw_tbl := List.mem_append_right _ (List.mem_append_right _ (List.mem_append_left _ (List.mem_of_getElem? (i := 178) (by decide +kernel))))
theorem cwu5_54 : (Cond.lays RX2 RX2 "time" "I") ∈ lw_tbl := List.mem_append_right _ (List.mem_append_right _ (List.mem_append_left _ (List.mem_of_getElem? (i := 180) (by decide +kernel))))
theorem cwu5_55 : (Cond.lays RX2 RX2 "money" "I") ∈ lw_tbl := List.mem_append_right _ (List.mem_append_right _ (List.mem_append_left _ (List.mem_of_getElem? (i := 182) (by decide +kernel))))
theorem cwu5_56 : (Cond.lays RX2 RX2 "earned" "I") ∈ lw_tbl := List.mem_append_right _ (List.mem_append_right _ (List.mem_append_left _ (List.mem_of_getElem? (i := 184) (by decide +kernel))))
theorem cwu5_57 : (Cond.lays RX2 RX2 "spent" "I") ∈ lw_tbl := List.mem_append_right _ (List.mem_append_right _ (List.mem_append_left _ (List.mem_of_getElem? (i := 186) (by decide +kernel))))
theorem cwu5_58 : (Cond.laysFinal RX2 RX2 "columns" "[I") ∈ lw_tbl := List.mem_append_right _ (List.mem_append_right _ (List.mem_append_left _ (List.mem_of_getElem? (i := 188) (by decide +kernel))))
theorem cwu5_59 : (Cond.laysFinal RX2 RX2 "lines" "[I") ∈ lw_tbl := List.mem_append_right _ (List.mem_append_right _ (List.mem_append_left _ (List.mem_of_getElem? (i := 190) (by decide +kernel))))
theorem cwt5 : ∀ w ∈ cw5, w ∈ lw_tbl := List.forall_mem_cons.mpr ⟨cwu5_0, List.forall_mem_cons.mpr ⟨cwu5_1, List.forall_mem_cons.mpr ⟨cwu5_2, List.forall_mem_cons.mpr ⟨cwu5_3, List.forall_mem_cons.mpr ⟨cwu5_4, List.forall_mem_cons.mpr ⟨cwu5_5, List.forall_mem_cons.mpr ⟨cwu5_6, List.forall_mem_cons.mpr ⟨cwu5_7, List.forall_mem_cons.mpr ⟨cwu5_8, List.forall_mem_cons.mpr ⟨cwu5_9, List.forall_mem_cons.mpr ⟨cwu5_10, List.forall_mem_cons.mpr ⟨cwu5_11, List.forall_mem_cons.mpr ⟨cwu5_12, List.forall_mem_cons.mpr ⟨cwu5_13, List.forall_mem_cons.mpr ⟨cwu5_14, List.forall_mem_cons.mpr ⟨cwu5_15, List.forall_mem_cons.mpr ⟨cwu5_16, List.forall_mem_cons.mpr ⟨cwu5_17, List.forall_mem_cons.mpr ⟨cwu5_18, List.forall_mem_cons.mpr ⟨cwu5_19, List.forall_mem_cons.mpr ⟨cwu5_20, List.forall_mem_cons.mpr ⟨cwu5_21, List.forall_mem_cons.mpr ⟨cwu5_22, List.forall_mem_cons.mpr ⟨cwu5_23, List.forall_mem_cons.mpr ⟨cwu5_24, List.forall_mem_cons.mpr ⟨cwu5_25, List.forall_mem_cons.mpr ⟨cwu5_26, List.forall_mem_cons.mpr ⟨cwu5_27, List.forall_mem_cons.mpr ⟨cwu5_28, List.forall_mem_cons.mpr ⟨cwu5_29, List.forall_mem_cons.mpr ⟨cwu5_30, List.forall_mem_cons.mpr ⟨cwu5_31, List.forall_mem_cons.mpr ⟨cwu5_32, List.forall_mem_cons.mpr ⟨cwu5_33, List.forall_mem_cons.mpr ⟨cwu5_34, List.forall_mem_cons.mpr ⟨cwu5_35, List.forall_mem_cons.mpr ⟨cwu5_36, List.forall_mem_cons.mpr ⟨cwu5_37, List.forall_mem_cons.mpr ⟨cwu5_38, List.forall_mem_cons.mpr ⟨cwu5_39, List.forall_mem_cons.mpr ⟨cwu5_40, List.forall_mem_cons.mpr ⟨cwu5_41, List.forall_mem_cons.mpr ⟨cwu5_42, List.forall_mem_cons.mpr ⟨cwu5_43, List.forall_mem_cons.mpr ⟨cwu5_44, List.forall_mem_cons.mpr ⟨cwu5_45, List.forall_mem_cons.mpr ⟨cwu5_46, List.forall_mem_cons.mpr ⟨cwu5_47, List.forall_mem_cons.mpr ⟨cwu5_48, List.forall_mem_cons.mpr ⟨cwu5_49, List.forall_mem_cons.mpr ⟨cwu5_50, List.forall_mem_cons.mpr ⟨cwu5_51, List.forall_mem_cons.mpr ⟨cwu5_52, List.forall_mem_cons.mpr ⟨cwu5_53, List.forall_mem_cons.mpr ⟨cwu5_54, List.forall_mem_cons.mpr ⟨cwu5_55, List.forall_mem_cons.mpr ⟨cwu5_56, List.forall_mem_cons.mpr ⟨cwu5_57, List.forall_mem_cons.mpr ⟨cwu5_58, List.forall_mem_cons.mpr ⟨cwu5_59, fun _ h => absurd h List.not_mem_nil⟩⟩⟩⟩⟩⟩⟩⟩⟩⟩⟩⟩⟩⟩⟩⟩⟩⟩⟩⟩⟩⟩⟩⟩⟩⟩⟩⟩⟩⟩⟩⟩⟩⟩⟩⟩⟩⟩⟩⟩⟩⟩⟩⟩⟩⟩⟩⟩⟩⟩⟩⟩⟩⟩⟩⟩⟩⟩⟩⟩
theorem cwi6 {w : Cond} (h : w ∈ cw6) : w ∈ cwL := List.mem_append_right _ (List.mem_append_right _ (List.mem_append_right _ (List.mem_append_right _ (List.mem_append_right _ (List.mem_append_right _ (List.mem_append_left _ h))))))
theorem cwg6 : cw6.all goodWord = true := by decide +kernel
theorem cwu6_0 : (Cond.laysFinal RX2 RX2 "accepts" "[I") ∈ lw_tbl := List.mem_append_right _ (List.mem_append_right _ (List.mem_append_left _ (List.mem_of_getElem? (i := 192) (by decide +kernel))))
theorem cwu6_1 : (Cond.laysFinal RX2 RX2 "rates" "[I") ∈ lw_tbl := List.mem_append_right _ (List.mem_append_right _ (List.mem_append_left _ (List.mem_of_getElem? (i := 194) (by decide +kernel))))
theorem cwu6_2 : (Cond.laysFinal RX2 RX2 "made" "[I") ∈ lw_tbl := List.mem_append_right _ (List.mem_append_right _ (List.mem_append_left _ (List.mem_of_getElem? (i := 196) (by decide +kernel))))
theorem cwu6_3 : (Cond.laysFinal RX2 RX2 "wagonKind" "[I") ∈ lw_tbl := List.mem_append_right _ (List.mem_append_right _ (List.mem_append_left _ (List.mem_of_getElem? (i := 198) (by decide +kernel))))
theorem cwu6_4 : (Cond.laysFinal RX2 RX2 "wagonRoom" "[I") ∈ lw_tbl := List.mem_append_right _ (List.mem_append_right _ (List.mem_append_left _ (List.mem_of_getElem? (i := 200) (by decide +kernel))))
theorem cwu6_5 : (Cond.laysFinal RX2 RX2 "size" "[I") ∈ lw_tbl := List.mem_append_right _ (List.mem_append_right _ (List.mem_append_left _ (List.mem_of_getElem? (i := 202) (by decide +kernel))))
theorem cwu6_6 : (Cond.laysFinal RX2 RX2 "origins" "[I") ∈ lw_tbl := List.mem_append_right _ (List.mem_append_right _ (List.mem_append_left _ (List.mem_of_getElem? (i := 204) (by decide +kernel))))
theorem cwu6_7 : (Cond.laysFinal RX2 RX2 "born" "[I") ∈ lw_tbl := List.mem_append_right _ (List.mem_append_right _ (List.mem_append_left _ (List.mem_of_getElem? (i := 206) (by decide +kernel))))
theorem cwu6_8 : (Cond.laysFinal RX2 RX2 "produced" "[I") ∈ lw_tbl := List.mem_append_right _ (List.mem_append_right _ (List.mem_append_left _ (List.mem_of_getElem? (i := 208) (by decide +kernel))))
theorem cwu6_9 : (Cond.laysFinal RX2 RX2 "delivered" "[I") ∈ lw_tbl := List.mem_append_right _ (List.mem_append_right _ (List.mem_append_left _ (List.mem_of_getElem? (i := 210) (by decide +kernel))))
theorem cwu6_10 : (Cond.laysFinal RX2 RX2 "dumped" "[I") ∈ lw_tbl := List.mem_append_right _ (List.mem_append_right _ (List.mem_append_left _ (List.mem_of_getElem? (i := 212) (by decide +kernel))))
theorem cwu6_11 : (Cond.superclass RX2 "java/lang/Object") ∈ lw_tbl := List.mem_append_right _ (List.mem_append_right _ (List.mem_append_left _ (List.mem_of_getElem? (i := 214) (by decide +kernel))))
theorem cwu6_12 : (Cond.methodLink RL 60 yX2_thrown) ∈ lw_tbl := List.mem_append_right _ (List.mem_append_right _ (List.mem_append_left _ (List.mem_of_getElem? (i := 215) (by decide +kernel))))
theorem cwu6_13 : (Cond.instanceMethod yX2_thrown) ∈ lw_tbl := List.mem_append_right _ (List.mem_append_right _ (List.mem_append_left _ (List.mem_of_getElem? (i := 216) (by decide +kernel))))
theorem cwu6_14 : (Cond.selects RX2 yX2_thrown yX2_thrown) ∈ lw_tbl := List.mem_append_right _ (List.mem_append_right _ (List.mem_append_left _ (List.mem_of_getElem? (i := 217) (by decide +kernel))))
theorem cwu6_15 : (Cond.code yX2_thrown cX2_thrown 1 (some .int)) ∈ lw_tbl := List.mem_append_right _ (List.mem_append_right _ (List.mem_append_left _ (List.mem_of_getElem? (i := 218) (by decide +kernel))))
theorem cwu6_16 : (Cond.methodLink RL 59 yX2_place) ∈ lw_tbl := List.mem_append_right _ (List.mem_append_right _ (List.mem_append_left _ (List.mem_of_getElem? (i := 219) (by decide +kernel))))
theorem cwu6_17 : (Cond.instanceMethod yX2_place) ∈ lw_tbl := List.mem_append_right _ (List.mem_append_right _ (List.mem_append_left _ (List.mem_of_getElem? (i := 220) (by decide +kernel))))
theorem cwu6_18 : (Cond.selects RX2 yX2_place yX2_place) ∈ lw_tbl := List.mem_append_right _ (List.mem_append_right _ (List.mem_append_left _ (List.mem_of_getElem? (i := 221) (by decide +kernel))))
theorem cwu6_19 : (Cond.code yX2_place cX2_place 4 none) ∈ lw_tbl := List.mem_append_right _ (List.mem_append_right _ (List.mem_append_left _ (List.mem_of_getElem? (i := 222) (by decide +kernel))))
theorem cwu6_20 : (Cond.methodLink RX2 77 yX2_in) ∈ lw_tbl := List.mem_append_right _ (List.mem_append_right _ (List.mem_append_left _ (List.mem_of_getElem? (i := 223) (by decide +kernel))))
theorem cwu6_21 : (Cond.static yX2_in) ∈ lw_tbl := List.mem_append_right _ (List.mem_append_right _ (List.mem_append_left _ (List.mem_of_getElem? (i := 224) (by decide +kernel))))
theorem cwu6_22 : (Cond.code yX2_in cX2_in 2 (some .boolean)) ∈ lw_tbl := List.mem_append_right _ (List.mem_append_right _ (List.mem_append_left _ (List.mem_of_getElem? (i := 225) (by decide +kernel))))
theorem cwu6_23 : (Cond.methodLink RL 66 yX2_rate) ∈ lw_tbl := List.mem_append_right _ (List.mem_append_right _ (List.mem_append_left _ (List.mem_of_getElem? (i := 226) (by decide +kernel))))
theorem cwu6_24 : (Cond.instanceMethod yX2_rate) ∈ lw_tbl := List.mem_append_right _ (List.mem_append_right _ (List.mem_append_left _ (List.mem_of_getElem? (i := 227) (by decide +kernel))))
theorem cwu6_25 : (Cond.selects RX2 yX2_rate yX2_rate) ∈ lw_tbl := List.mem_append_right _ (List.mem_append_right _ (List.mem_append_left _ (List.mem_of_getElem? (i := 228) (by decide +kernel))))
theorem cwu6_26 : (Cond.code yX2_rate cX2_rate 4 none) ∈ lw_tbl := List.mem_append_right _ (List.mem_append_right _ (List.mem_append_left _ (List.mem_of_getElem? (i := 229) (by decide +kernel))))
theorem cwu6_27 : (Cond.methodLink RL 70 yX2_accept) ∈ lw_tbl := List.mem_append_right _ (List.mem_append_right _ (List.mem_append_left _ (List.mem_of_getElem? (i := 230) (by decide +kernel))))
theorem cwu6_28 : (Cond.instanceMethod yX2_accept) ∈ lw_tbl := List.mem_append_right _ (List.mem_append_right _ (List.mem_append_left _ (List.mem_of_getElem? (i := 231) (by decide +kernel))))
theorem cwu6_29 : (Cond.selects RX2 yX2_accept yX2_accept) ∈ lw_tbl := List.mem_append_right _ (List.mem_append_right _ (List.mem_append_left _ (List.mem_of_getElem? (i := 232) (by decide +kernel))))
theorem cwu6_30 : (Cond.code yX2_accept cX2_accept 3 none) ∈ lw_tbl := List.mem_append_right _ (List.mem_append_right _ (List.mem_append_left _ (List.mem_of_getElem? (i := 233) (by decide +kernel))))
theorem cwu6_31 : (Cond.methodLink RL 73 yX2_make) ∈ lw_tbl := List.mem_append_right _ (List.mem_append_right _ (List.mem_append_left _ (List.mem_of_getElem? (i := 234) (by decide +kernel))))
theorem cwu6_32 : (Cond.instanceMethod yX2_make) ∈ lw_tbl := List.mem_append_right _ (List.mem_append_right _ (List.mem_append_left _ (List.mem_of_getElem? (i := 235) (by decide +kernel))))
theorem cwu6_33 : (Cond.selects RX2 yX2_make yX2_make) ∈ lw_tbl := List.mem_append_right _ (List.mem_append_right _ (List.mem_append_left _ (List.mem_of_getElem? (i := 236) (by decide +kernel))))
theorem cwu6_34 : (Cond.code yX2_make cX2_make 4 none) ∈ lw_tbl := List.mem_append_right _ (List.mem_append_right _ (List.mem_append_left _ (List.mem_of_getElem? (i := 237) (by decide +kernel))))
theorem cwu6_35 : (Cond.methodLink RL 76 yX2_wagon) ∈ lw_tbl := List.mem_append_right _ (List.mem_append_right _ (List.mem_append_left _ (List.mem_of_getElem? (i := 238) (by decide +kernel))))
theorem cwu6_36 : (Cond.instanceMethod yX2_wagon) ∈ lw_tbl := List.mem_append_right _ (List.mem_append_right _ (List.mem_append_left _ (List.mem_of_getElem? (i := 239) (by decide +kernel))))
theorem cwu6_37 : (Cond.selects RX2 yX2_wagon yX2_wagon) ∈ lw_tbl := List.mem_append_right _ (List.mem_append_right _ (List.mem_append_right _ (List.mem_of_getElem? (i := 0) (by decide +kernel))))
theorem cwu6_38 : (Cond.code yX2_wagon cX2_wagon 4 none) ∈ lw_tbl := List.mem_append_right _ (List.mem_append_right _ (List.mem_append_right _ (List.mem_of_getElem? (i := 1) (by decide +kernel))))
theorem cwu6_39 : (Cond.methodLink RL 80 yX2_pass) ∈ lw_tbl := List.mem_append_right _ (List.mem_append_right _ (List.mem_append_right _ (List.mem_of_getElem? (i := 2) (by decide +kernel))))
theorem cwu6_40 : (Cond.instanceMethod yX2_pass) ∈ lw_tbl := List.mem_append_right _ (List.mem_append_right _ (List.mem_append_right _ (List.mem_of_getElem? (i := 3) (by decide +kernel))))
theorem cwu6_41 : (Cond.selects RX2 yX2_pass yX2_pass) ∈ lw_tbl := List.mem_append_right _ (List.mem_append_right _ (List.mem_append_right _ (List.mem_of_getElem? (i := 4) (by decide +kernel))))
theorem cwu6_42 : (Cond.code yX2_pass cX2_pass 5 (some .int)) ∈ lw_tbl := List.mem_append_right _ (List.mem_append_right _ (List.mem_append_right _ (List.mem_of_getElem? (i := 5) (by decide +kernel))))
theorem cwu6_43 : (Cond.constant RX2 73 (2000000000)) ∈ lw_tbl := List.mem_append_right _ (List.mem_append_right _ (List.mem_append_right _ (List.mem_of_getElem? (i := 6) (by decide +kernel))))
theorem cwu6_44 : (Cond.methodLink RX2 80 yX2_produce) ∈ lw_tbl := List.mem_append_right _ (List.mem_append_right _ (List.mem_append_right _ (List.mem_of_getElem? (i := 7) (by decide +kernel))))
theorem cwu6_45 : (Cond.instanceMethod yX2_produce) ∈ lw_tbl := List.mem_append_right _ (List.mem_append_right _ (List.mem_append_right _ (List.mem_of_getElem? (i := 9) (by decide +kernel))))
theorem cwu6_46 : (Cond.code yX2_produce cX2_produce 3 none) ∈ lw_tbl := List.mem_append_right _ (List.mem_append_right _ (List.mem_append_right _ (List.mem_of_getElem? (i := 10) (by decide +kernel))))
theorem cwu6_47 : (Cond.methodLink RX2 69 yX2_put) ∈ lw_tbl := List.mem_append_right _ (List.mem_append_right _ (List.mem_append_right _ (List.mem_of_getElem? (i := 11) (by decide +kernel))))
theorem cwu6_48 : (Cond.instanceMethod yX2_put) ∈ lw_tbl := List.mem_append_right _ (List.mem_append_right _ (List.mem_append_right _ (List.mem_of_getElem? (i := 13) (by decide +kernel))))
theorem cwu6_49 : (Cond.code yX2_put cX2_put 6 none) ∈ lw_tbl := List.mem_append_right _ (List.mem_append_right _ (List.mem_append_right _ (List.mem_of_getElem? (i := 14) (by decide +kernel))))
theorem cwu6_50 : (Cond.methodLink RX2 61 yX2_packets) ∈ lw_tbl := List.mem_append_right _ (List.mem_append_right _ (List.mem_append_right _ (List.mem_of_getElem? (i := 15) (by decide +kernel))))
theorem cwu6_51 : (Cond.instanceMethod yX2_packets) ∈ lw_tbl := List.mem_append_right _ (List.mem_append_right _ (List.mem_append_right _ (List.mem_of_getElem? (i := 17) (by decide +kernel))))
theorem cwu6_52 : (Cond.code yX2_packets cX2_packets 4 (some .int)) ∈ lw_tbl := List.mem_append_right _ (List.mem_append_right _ (List.mem_append_right _ (List.mem_of_getElem? (i := 18) (by decide +kernel))))
theorem cwu6_53 : (Cond.methodLink RX2 57 yX2_isFirst) ∈ lw_tbl := List.mem_append_right _ (List.mem_append_right _ (List.mem_append_right _ (List.mem_of_getElem? (i := 19) (by decide +kernel))))
theorem cwu6_54 : (Cond.instanceMethod yX2_isFirst) ∈ lw_tbl := List.mem_append_right _ (List.mem_append_right _ (List.mem_append_right _ (List.mem_of_getElem? (i := 21) (by decide +kernel))))
theorem cwu6_55 : (Cond.code yX2_isFirst cX2_isFirst 3 (some .boolean)) ∈ lw_tbl := List.mem_append_right _ (List.mem_append_right _ (List.mem_append_right _ (List.mem_of_getElem? (i := 22) (by decide +kernel))))
theorem cwu6_56 : (Cond.methodLink RL 84 yX2_load) ∈ lw_tbl := List.mem_append_right _ (List.mem_append_right _ (List.mem_append_right _ (List.mem_of_getElem? (i := 23) (by decide +kernel))))
theorem cwu6_57 : (Cond.instanceMethod yX2_load) ∈ lw_tbl := List.mem_append_right _ (List.mem_append_right _ (List.mem_append_right _ (List.mem_of_getElem? (i := 24) (by decide +kernel))))
theorem cwu6_58 : (Cond.selects RX2 yX2_load yX2_load) ∈ lw_tbl := List.mem_append_right _ (List.mem_append_right _ (List.mem_append_right _ (List.mem_of_getElem? (i := 25) (by decide +kernel))))
theorem cwu6_59 : (Cond.code yX2_load cX2_load 6 (some .int)) ∈ lw_tbl := List.mem_append_right _ (List.mem_append_right _ (List.mem_append_right _ (List.mem_of_getElem? (i := 26) (by decide +kernel))))
theorem cwt6 : ∀ w ∈ cw6, w ∈ lw_tbl := List.forall_mem_cons.mpr ⟨cwu6_0, List.forall_mem_cons.mpr ⟨cwu6_1, List.forall_mem_cons.mpr ⟨cwu6_2, List.forall_mem_cons.mpr ⟨cwu6_3, List.forall_mem_cons.mpr ⟨cwu6_4, List.forall_mem_cons.mpr ⟨cwu6_5, List.forall_mem_cons.mpr ⟨cwu6_6, List.forall_mem_cons.mpr ⟨cwu6_7, List.forall_mem_cons.mpr ⟨cwu6_8, List.forall_mem_cons.mpr ⟨cwu6_9, List.forall_mem_cons.mpr ⟨cwu6_10, List.forall_mem_cons.mpr ⟨cwu6_11, List.forall_mem_cons.mpr ⟨cwu6_12, List.forall_mem_cons.mpr ⟨cwu6_13, List.forall_mem_cons.mpr ⟨cwu6_14, List.forall_mem_cons.mpr ⟨cwu6_15, List.forall_mem_cons.mpr ⟨cwu6_16, List.forall_mem_cons.mpr ⟨cwu6_17, List.forall_mem_cons.mpr ⟨cwu6_18, List.forall_mem_cons.mpr ⟨cwu6_19, List.forall_mem_cons.mpr ⟨cwu6_20, List.forall_mem_cons.mpr ⟨cwu6_21, List.forall_mem_cons.mpr ⟨cwu6_22, List.forall_mem_cons.mpr ⟨cwu6_23, List.forall_mem_cons.mpr ⟨cwu6_24, List.forall_mem_cons.mpr ⟨cwu6_25, List.forall_mem_cons.mpr ⟨cwu6_26, List.forall_mem_cons.mpr ⟨cwu6_27, List.forall_mem_cons.mpr ⟨cwu6_28, List.forall_mem_cons.mpr ⟨cwu6_29, List.forall_mem_cons.mpr ⟨cwu6_30, List.forall_mem_cons.mpr ⟨cwu6_31, List.forall_mem_cons.mpr ⟨cwu6_32, List.forall_mem_cons.mpr ⟨cwu6_33, List.forall_mem_cons.mpr ⟨cwu6_34, List.forall_mem_cons.mpr ⟨cwu6_35, List.forall_mem_cons.mpr ⟨cwu6_36, List.forall_mem_cons.mpr ⟨cwu6_37, List.forall_mem_cons.mpr ⟨cwu6_38, List.forall_mem_cons.mpr ⟨cwu6_39, List.forall_mem_cons.mpr ⟨cwu6_40, List.forall_mem_cons.mpr ⟨cwu6_41, List.forall_mem_cons.mpr ⟨cwu6_42, List.forall_mem_cons.mpr ⟨cwu6_43, List.forall_mem_cons.mpr ⟨cwu6_44, List.forall_mem_cons.mpr ⟨cwu6_45, List.forall_mem_cons.mpr ⟨cwu6_46, List.forall_mem_cons.mpr ⟨cwu6_47, List.forall_mem_cons.mpr ⟨cwu6_48, List.forall_mem_cons.mpr ⟨cwu6_49, List.forall_mem_cons.mpr ⟨cwu6_50, List.forall_mem_cons.mpr ⟨cwu6_51, List.forall_mem_cons.mpr ⟨cwu6_52, List.forall_mem_cons.mpr ⟨cwu6_53, List.forall_mem_cons.mpr ⟨cwu6_54, List.forall_mem_cons.mpr ⟨cwu6_55, List.forall_mem_cons.mpr ⟨cwu6_56, List.forall_mem_cons.mpr ⟨cwu6_57, List.forall_mem_cons.mpr ⟨cwu6_58, List.forall_mem_cons.mpr ⟨cwu6_59, fun _ h => absurd h List.not_mem_nil⟩⟩⟩⟩⟩⟩⟩⟩⟩⟩⟩⟩⟩⟩⟩⟩⟩⟩⟩⟩⟩⟩⟩⟩⟩⟩⟩⟩⟩⟩⟩⟩⟩⟩⟩⟩⟩⟩⟩⟩⟩⟩⟩⟩⟩⟩⟩⟩⟩⟩⟩⟩⟩⟩⟩⟩⟩⟩⟩⟩
theorem cwi7 {w : Cond} (h : w ∈ cw7) : w ∈ cwL := List.mem_append_right _ (List.mem_append_right _ (List.mem_append_right _ (List.mem_append_right _ (List.mem_append_right _ (List.mem_append_right _ (List.mem_append_right _ (List.mem_append_left _ h)))))))
theorem cwg7 : cw7.all goodWord = true := by decide +kernel
theorem cwu7_0 : (Cond.methodLink RX2 84 yX2_move) ∈ lw_tbl := List.mem_append_right _ (List.mem_append_right _ (List.mem_append_right _ (List.mem_of_getElem? (i := 27) (by decide +kernel))))
theorem cwu7_1 : (Cond.instanceMethod yX2_move) ∈ lw_tbl := List.mem_append_right _ (List.mem_append_right _ (List.mem_append_right _ (List.mem_of_getElem? (i := 29) (by decide +kernel))))
theorem cwu7_2 : (Cond.code yX2_move cX2_move 5 none) ∈ lw_tbl := List.mem_append_right _ (List.mem_append_right _ (List.mem_append_right _ (List.mem_of_getElem? (i := 30) (by decide +kernel))))
theorem cwu7_3 : (Cond.methodLink RX2 65 yX2_drop) ∈ lw_tbl := List.mem_append_right _ (List.mem_append_right _ (List.mem_append_right _ (List.mem_of_getElem? (i := 31) (by decide +kernel))))
theorem cwu7_4 : (Cond.instanceMethod yX2_drop) ∈ lw_tbl := List.mem_append_right _ (List.mem_append_right _ (List.mem_append_right _ (List.mem_of_getElem? (i := 33) (by decide +kernel))))
theorem cwu7_5 : (Cond.code yX2_drop cX2_drop 3 none) ∈ lw_tbl := List.mem_append_right _ (List.mem_append_right _ (List.mem_append_right _ (List.mem_of_getElem? (i := 34) (by decide +kernel))))
theorem cwu7_6 : (Cond.methodLink RL 87 yX2_unload) ∈ lw_tbl := List.mem_append_right _ (List.mem_append_right _ (List.mem_append_right _ (List.mem_of_getElem? (i := 35) (by decide +kernel))))
theorem cwu7_7 : (Cond.instanceMethod yX2_unload) ∈ lw_tbl := List.mem_append_right _ (List.mem_append_right _ (List.mem_append_right _ (List.mem_of_getElem? (i := 36) (by decide +kernel))))
theorem cwu7_8 : (Cond.selects RX2 yX2_unload yX2_unload) ∈ lw_tbl := List.mem_append_right _ (List.mem_append_right _ (List.mem_append_right _ (List.mem_of_getElem? (i := 37) (by decide +kernel))))
theorem cwu7_9 : (Cond.code yX2_unload cX2_unload 9 (some .int)) ∈ lw_tbl := List.mem_append_right _ (List.mem_append_right _ (List.mem_append_right _ (List.mem_of_getElem? (i := 38) (by decide +kernel))))
theorem cwu7_10 : (Cond.methodLink RX2 94 yX2_pay) ∈ lw_tbl := List.mem_append_right _ (List.mem_append_right _ (List.mem_append_right _ (List.mem_of_getElem? (i := 39) (by decide +kernel))))
theorem cwu7_11 : (Cond.instanceMethod yX2_pay) ∈ lw_tbl := List.mem_append_right _ (List.mem_append_right _ (List.mem_append_right _ (List.mem_of_getElem? (i := 41) (by decide +kernel))))
theorem cwu7_12 : (Cond.code yX2_pay cX2_pay 6 none) ∈ lw_tbl := List.mem_append_right _ (List.mem_append_right _ (List.mem_append_right _ (List.mem_of_getElem? (i := 42) (by decide +kernel))))
theorem cwu7_13 : (Cond.methodLink RX2 87 yX2_apart) ∈ lw_tbl := List.mem_append_right _ (List.mem_append_right _ (List.mem_append_right _ (List.mem_of_getElem? (i := 43) (by decide +kernel))))
theorem cwu7_14 : (Cond.static yX2_apart) ∈ lw_tbl := List.mem_append_right _ (List.mem_append_right _ (List.mem_append_right _ (List.mem_of_getElem? (i := 44) (by decide +kernel))))
theorem cwu7_15 : (Cond.code yX2_apart cX2_apart 2 (some .int)) ∈ lw_tbl := List.mem_append_right _ (List.mem_append_right _ (List.mem_append_right _ (List.mem_of_getElem? (i := 45) (by decide +kernel))))
theorem cwu7_16 : (Cond.methodLink RL 90 yX2_pour) ∈ lw_tbl := List.mem_append_right _ (List.mem_append_right _ (List.mem_append_right _ (List.mem_of_getElem? (i := 46) (by decide +kernel))))
theorem cwu7_17 : (Cond.instanceMethod yX2_pour) ∈ lw_tbl := List.mem_append_right _ (List.mem_append_right _ (List.mem_append_right _ (List.mem_of_getElem? (i := 47) (by decide +kernel))))
theorem cwu7_18 : (Cond.selects RX2 yX2_pour yX2_pour) ∈ lw_tbl := List.mem_append_right _ (List.mem_append_right _ (List.mem_append_right _ (List.mem_of_getElem? (i := 48) (by decide +kernel))))
theorem cwu7_19 : (Cond.code yX2_pour cX2_pour 4 none) ∈ lw_tbl := List.mem_append_right _ (List.mem_append_right _ (List.mem_append_right _ (List.mem_of_getElem? (i := 49) (by decide +kernel))))
theorem cwu7_20 : (Cond.methodLink RL 93 yX2_part) ∈ lw_tbl := List.mem_append_right _ (List.mem_append_right _ (List.mem_append_right _ (List.mem_of_getElem? (i := 50) (by decide +kernel))))
theorem cwu7_21 : (Cond.instanceMethod yX2_part) ∈ lw_tbl := List.mem_append_right _ (List.mem_append_right _ (List.mem_append_right _ (List.mem_of_getElem? (i := 51) (by decide +kernel))))
theorem cwu7_22 : (Cond.selects RX2 yX2_part yX2_part) ∈ lw_tbl := List.mem_append_right _ (List.mem_append_right _ (List.mem_append_right _ (List.mem_of_getElem? (i := 52) (by decide +kernel))))
theorem cwu7_23 : (Cond.code yX2_part cX2_part 7 none) ∈ lw_tbl := List.mem_append_right _ (List.mem_append_right _ (List.mem_append_right _ (List.mem_of_getElem? (i := 53) (by decide +kernel))))
theorem cwu7_24 : (Cond.constant RX2 97 (48000)) ∈ lw_tbl := List.mem_append_right _ (List.mem_append_right _ (List.mem_append_right _ (List.mem_of_getElem? (i := 54) (by decide +kernel))))
theorem cwu7_25 : (Cond.methodLink RL 96 yX2_dump) ∈ lw_tbl := List.mem_append_right _ (List.mem_append_right _ (List.mem_append_right _ (List.mem_of_getElem? (i := 55) (by decide +kernel))))
theorem cwu7_26 : (Cond.instanceMethod yX2_dump) ∈ lw_tbl := List.mem_append_right _ (List.mem_append_right _ (List.mem_append_right _ (List.mem_of_getElem? (i := 56) (by decide +kernel))))
theorem cwu7_27 : (Cond.selects RX2 yX2_dump yX2_dump) ∈ lw_tbl := List.mem_append_right _ (List.mem_append_right _ (List.mem_append_right _ (List.mem_of_getElem? (i := 57) (by decide +kernel))))
theorem cwu7_28 : (Cond.code yX2_dump cX2_dump 3 (some .int)) ∈ lw_tbl := List.mem_append_right _ (List.mem_append_right _ (List.mem_append_right _ (List.mem_of_getElem? (i := 58) (by decide +kernel))))
theorem cwu7_29 : (Cond.methodLink RL 101 yX2_spend) ∈ lw_tbl := List.mem_append_right _ (List.mem_append_right _ (List.mem_append_right _ (List.mem_of_getElem? (i := 59) (by decide +kernel))))
theorem cwu7_30 : (Cond.instanceMethod yX2_spend) ∈ lw_tbl := List.mem_append_right _ (List.mem_append_right _ (List.mem_append_right _ (List.mem_of_getElem? (i := 60) (by decide +kernel))))
theorem cwu7_31 : (Cond.selects RX2 yX2_spend yX2_spend) ∈ lw_tbl := List.mem_append_right _ (List.mem_append_right _ (List.mem_append_right _ (List.mem_of_getElem? (i := 61) (by decide +kernel))))
theorem cwu7_32 : (Cond.code yX2_spend cX2_spend 2 (some .boolean)) ∈ lw_tbl := List.mem_append_right _ (List.mem_append_right _ (List.mem_append_right _ (List.mem_of_getElem? (i := 62) (by decide +kernel))))
theorem cwu7_33 : (Cond.methodLink RL 106 yX2_packet) ∈ lw_tbl := List.mem_append_right _ (List.mem_append_right _ (List.mem_append_right _ (List.mem_of_getElem? (i := 63) (by decide +kernel))))
theorem cwu7_34 : (Cond.instanceMethod yX2_packet) ∈ lw_tbl := List.mem_append_right _ (List.mem_append_right _ (List.mem_append_right _ (List.mem_of_getElem? (i := 64) (by decide +kernel))))
theorem cwu7_35 : (Cond.selects RX2 yX2_packet yX2_packet) ∈ lw_tbl := List.mem_append_right _ (List.mem_append_right _ (List.mem_append_right _ (List.mem_of_getElem? (i := 65) (by decide +kernel))))
theorem cwu7_36 : (Cond.code yX2_packet cX2_packet 9 (some .int)) ∈ lw_tbl := List.mem_append_right _ (List.mem_append_right _ (List.mem_append_right _ (List.mem_of_getElem? (i := 66) (by decide +kernel))))
theorem cwu7_37 : (Cond.methodLink RX2 101 yX2_rowOf) ∈ lw_tbl := List.mem_append_right _ (List.mem_append_right _ (List.mem_append_right _ (List.mem_of_getElem? (i := 67) (by decide +kernel))))
theorem cwu7_38 : (Cond.instanceMethod yX2_rowOf) ∈ lw_tbl := List.mem_append_right _ (List.mem_append_right _ (List.mem_append_right _ (List.mem_of_getElem? (i := 69) (by decide +kernel))))
theorem cwu7_39 : (Cond.code yX2_rowOf cX2_rowOf 3 (some .int)) ∈ lw_tbl := List.mem_append_right _ (List.mem_append_right _ (List.mem_append_right _ (List.mem_of_getElem? (i := 70) (by decide +kernel))))
theorem cwu7_40 : (Cond.methodLink RL 111 yX2_units) ∈ lw_tbl := List.mem_append_right _ (List.mem_append_right _ (List.mem_append_right _ (List.mem_of_getElem? (i := 71) (by decide +kernel))))
theorem cwu7_41 : (Cond.instanceMethod yX2_units) ∈ lw_tbl := List.mem_append_right _ (List.mem_append_right _ (List.mem_append_right _ (List.mem_of_getElem? (i := 72) (by decide +kernel))))
theorem cwu7_42 : (Cond.selects RX2 yX2_units yX2_units) ∈ lw_tbl := List.mem_append_right _ (List.mem_append_right _ (List.mem_append_right _ (List.mem_of_getElem? (i := 73) (by decide +kernel))))
theorem cwu7_43 : (Cond.code yX2_units cX2_units 4 (some .int)) ∈ lw_tbl := List.mem_append_right _ (List.mem_append_right _ (List.mem_append_right _ (List.mem_of_getElem? (i := 74) (by decide +kernel))))
theorem cwu7_44 : (Cond.methodLink RL 115 yX2_count) ∈ lw_tbl := List.mem_append_right _ (List.mem_append_right _ (List.mem_append_right _ (List.mem_of_getElem? (i := 75) (by decide +kernel))))
theorem cwu7_45 : (Cond.instanceMethod yX2_count) ∈ lw_tbl := List.mem_append_right _ (List.mem_append_right _ (List.mem_append_right _ (List.mem_of_getElem? (i := 76) (by decide +kernel))))
theorem cwu7_46 : (Cond.selects RX2 yX2_count yX2_count) ∈ lw_tbl := List.mem_append_right _ (List.mem_append_right _ (List.mem_append_right _ (List.mem_of_getElem? (i := 77) (by decide +kernel))))
theorem cwu7_47 : (Cond.code yX2_count cX2_count 5 (some .int)) ∈ lw_tbl := List.mem_append_right _ (List.mem_append_right _ (List.mem_append_right _ (List.mem_of_getElem? (i := 78) (by decide +kernel))))
theorem cwu7_48 : (Cond.methodLink RL 119 yX2_sum) ∈ lw_tbl := List.mem_append_right _ (List.mem_append_right _ (List.mem_append_right _ (List.mem_of_getElem? (i := 79) (by decide +kernel))))
theorem cwu7_49 : (Cond.instanceMethod yX2_sum) ∈ lw_tbl := List.mem_append_right _ (List.mem_append_right _ (List.mem_append_right _ (List.mem_of_getElem? (i := 80) (by decide +kernel))))
theorem cwu7_50 : (Cond.selects RX2 yX2_sum yX2_sum) ∈ lw_tbl := List.mem_append_right _ (List.mem_append_right _ (List.mem_append_right _ (List.mem_of_getElem? (i := 81) (by decide +kernel))))
theorem cwu7_51 : (Cond.code yX2_sum cX2_sum 2 (some .int)) ∈ lw_tbl := List.mem_append_right _ (List.mem_append_right _ (List.mem_append_right _ (List.mem_of_getElem? (i := 82) (by decide +kernel))))
theorem cwu7_52 : (Cond.arrayClass .long) ∈ lw_tbl := List.mem_append_right _ (List.mem_append_right _ (List.mem_append_right _ (List.mem_of_getElem? (i := 83) (by decide +kernel))))
theorem cwu7_53 : (Cond.sameMethod "java/lang/Throwable" "java/lang/Throwable" "fillInStackTrace" "(I)Ljava/lang/Throwable;") ∈ lw_tbl := List.mem_append_right _ (List.mem_append_right _ (List.mem_append_right _ (List.mem_of_getElem? (i := 84) (by decide +kernel))))
theorem cwu7_54 : (Cond.selects RX1 yX1_rowAt yX1_rowAt) ∈ lw_tbl := List.mem_append_left _ (List.mem_of_getElem? (i := 0) (by decide +kernel))
theorem cwu7_55 : (Cond.selects RX1 yX1_unitsInStocks yX1_unitsInStocks) ∈ lw_tbl := List.mem_append_left _ (List.mem_of_getElem? (i := 1) (by decide +kernel))
theorem cwu7_56 : (Cond.selects RX1 yX1_unitsInWagons yX1_unitsInWagons) ∈ lw_tbl := List.mem_append_left _ (List.mem_of_getElem? (i := 2) (by decide +kernel))
theorem cwu7_57 : (Cond.selects RX1 yX1_produceEverywhere yX1_produceEverywhere) ∈ lw_tbl := List.mem_append_left _ (List.mem_of_getElem? (i := 4) (by decide +kernel))
theorem cwu7_58 : (Cond.selects RX1 yX1_produce yX1_produce) ∈ lw_tbl := List.mem_append_left _ (List.mem_of_getElem? (i := 5) (by decide +kernel))
theorem cwu7_59 : (Cond.selects RX0 yX0_lastIs yX0_lastIs) ∈ lw_tbl := List.mem_append_left _ (List.mem_of_getElem? (i := 6) (by decide +kernel))
theorem cwt7 : ∀ w ∈ cw7, w ∈ lw_tbl := List.forall_mem_cons.mpr ⟨cwu7_0, List.forall_mem_cons.mpr ⟨cwu7_1, List.forall_mem_cons.mpr ⟨cwu7_2, List.forall_mem_cons.mpr ⟨cwu7_3, List.forall_mem_cons.mpr ⟨cwu7_4, List.forall_mem_cons.mpr ⟨cwu7_5, List.forall_mem_cons.mpr ⟨cwu7_6, List.forall_mem_cons.mpr ⟨cwu7_7, List.forall_mem_cons.mpr ⟨cwu7_8, List.forall_mem_cons.mpr ⟨cwu7_9, List.forall_mem_cons.mpr ⟨cwu7_10, List.forall_mem_cons.mpr ⟨cwu7_11, List.forall_mem_cons.mpr ⟨cwu7_12, List.forall_mem_cons.mpr ⟨cwu7_13, List.forall_mem_cons.mpr ⟨cwu7_14, List.forall_mem_cons.mpr ⟨cwu7_15, List.forall_mem_cons.mpr ⟨cwu7_16, List.forall_mem_cons.mpr ⟨cwu7_17, List.forall_mem_cons.mpr ⟨cwu7_18, List.forall_mem_cons.mpr ⟨cwu7_19, List.forall_mem_cons.mpr ⟨cwu7_20, List.forall_mem_cons.mpr ⟨cwu7_21, List.forall_mem_cons.mpr ⟨cwu7_22, List.forall_mem_cons.mpr ⟨cwu7_23, List.forall_mem_cons.mpr ⟨cwu7_24, List.forall_mem_cons.mpr ⟨cwu7_25, List.forall_mem_cons.mpr ⟨cwu7_26, List.forall_mem_cons.mpr ⟨cwu7_27, List.forall_mem_cons.mpr ⟨cwu7_28, List.forall_mem_cons.mpr ⟨cwu7_29, List.forall_mem_cons.mpr ⟨cwu7_30, List.forall_mem_cons.mpr ⟨cwu7_31, List.forall_mem_cons.mpr ⟨cwu7_32, List.forall_mem_cons.mpr ⟨cwu7_33, List.forall_mem_cons.mpr ⟨cwu7_34, List.forall_mem_cons.mpr ⟨cwu7_35, List.forall_mem_cons.mpr ⟨cwu7_36, List.forall_mem_cons.mpr ⟨cwu7_37, List.forall_mem_cons.mpr ⟨cwu7_38, List.forall_mem_cons.mpr ⟨cwu7_39, List.forall_mem_cons.mpr ⟨cwu7_40, List.forall_mem_cons.mpr ⟨cwu7_41, List.forall_mem_cons.mpr ⟨cwu7_42, List.forall_mem_cons.mpr ⟨cwu7_43, List.forall_mem_cons.mpr ⟨cwu7_44, List.forall_mem_cons.mpr ⟨cwu7_45, List.forall_mem_cons.mpr ⟨cwu7_46, List.forall_mem_cons.mpr ⟨cwu7_47, List.forall_mem_cons.mpr ⟨cwu7_48, List.forall_mem_cons.mpr ⟨cwu7_49, List.forall_mem_cons.mpr ⟨cwu7_50, List.forall_mem_cons.mpr ⟨cwu7_51, List.forall_mem_cons.mpr ⟨cwu7_52, List.forall_mem_cons.mpr ⟨cwu7_53, List.forall_mem_cons.mpr ⟨cwu7_54, List.forall_mem_cons.mpr ⟨cwu7_55, List.forall_mem_cons.mpr ⟨cwu7_56, List.forall_mem_cons.mpr ⟨cwu7_57, List.forall_mem_cons.mpr ⟨cwu7_58, List.forall_mem_cons.mpr ⟨cwu7_59, fun _ h => absurd h List.not_mem_nil⟩⟩⟩⟩⟩⟩⟩⟩⟩⟩⟩⟩⟩⟩⟩⟩⟩⟩⟩⟩⟩⟩⟩⟩⟩⟩⟩⟩⟩⟩⟩⟩⟩⟩⟩⟩⟩⟩⟩⟩⟩⟩⟩⟩⟩⟩⟩⟩⟩⟩⟩⟩⟩⟩⟩⟩⟩⟩⟩⟩
theorem cwi8 {w : Cond} (h : w ∈ cw8) : w ∈ cwL := List.mem_append_right _ (List.mem_append_right _ (List.mem_append_right _ (List.mem_append_right _ (List.mem_append_right _ (List.mem_append_right _ (List.mem_append_right _ (List.mem_append_right _ (h))))))))
theorem cwg8 : cw8.all goodWord = true := by decide +kernel
theorem cwu8_0 : (Cond.selects RX0 yX0_dropFirst yX0_dropFirst) ∈ lw_tbl := List.mem_append_left _ (List.mem_of_getElem? (i := 7) (by decide +kernel))
theorem cwu8_1 : (Cond.selects RX1 yX1_deliverFrom yX1_deliverFrom) ∈ lw_tbl := List.mem_append_left _ (List.mem_of_getElem? (i := 8) (by decide +kernel))
theorem cwu8_2 : (Cond.selects RX1 yX1_payOfOne yX1_payOfOne) ∈ lw_tbl := List.mem_append_left _ (List.mem_of_getElem? (i := 9) (by decide +kernel))
theorem cwu8_3 : (Cond.selects RX1 yX1_earn yX1_earn) ∈ lw_tbl := List.mem_append_left _ (List.mem_of_getElem? (i := 10) (by decide +kernel))
theorem cwu8_4 : (Cond.selects RX1 yX1_checkFellows yX1_checkFellows) ∈ lw_tbl := List.mem_append_left _ (List.mem_of_getElem? (i := 11) (by decide +kernel))
theorem cwu8_5 : (Cond.selects RX2 yX2_produce yX2_produce) ∈ lw_tbl := List.mem_append_left _ (List.mem_of_getElem? (i := 12) (by decide +kernel))
theorem cwu8_6 : (Cond.selects RX2 yX2_put yX2_put) ∈ lw_tbl := List.mem_append_left _ (List.mem_of_getElem? (i := 13) (by decide +kernel))
theorem cwu8_7 : (Cond.selects RX2 yX2_packets yX2_packets) ∈ lw_tbl := List.mem_append_left _ (List.mem_of_getElem? (i := 14) (by decide +kernel))
theorem cwu8_8 : (Cond.selects RX2 yX2_isFirst yX2_isFirst) ∈ lw_tbl := List.mem_append_left _ (List.mem_of_getElem? (i := 15) (by decide +kernel))
theorem cwu8_9 : (Cond.selects RX2 yX2_move yX2_move) ∈ lw_tbl := List.mem_append_left _ (List.mem_of_getElem? (i := 16) (by decide +kernel))
theorem cwu8_10 : (Cond.selects RX2 yX2_drop yX2_drop) ∈ lw_tbl := List.mem_append_left _ (List.mem_of_getElem? (i := 17) (by decide +kernel))
theorem cwu8_11 : (Cond.selects RX2 yX2_pay yX2_pay) ∈ lw_tbl := List.mem_append_left _ (List.mem_of_getElem? (i := 18) (by decide +kernel))
theorem cwu8_12 : (Cond.selects RX2 yX2_rowOf yX2_rowOf) ∈ lw_tbl := List.mem_append_left _ (List.mem_of_getElem? (i := 19) (by decide +kernel))
theorem cwt8 : ∀ w ∈ cw8, w ∈ lw_tbl := List.forall_mem_cons.mpr ⟨cwu8_0, List.forall_mem_cons.mpr ⟨cwu8_1, List.forall_mem_cons.mpr ⟨cwu8_2, List.forall_mem_cons.mpr ⟨cwu8_3, List.forall_mem_cons.mpr ⟨cwu8_4, List.forall_mem_cons.mpr ⟨cwu8_5, List.forall_mem_cons.mpr ⟨cwu8_6, List.forall_mem_cons.mpr ⟨cwu8_7, List.forall_mem_cons.mpr ⟨cwu8_8, List.forall_mem_cons.mpr ⟨cwu8_9, List.forall_mem_cons.mpr ⟨cwu8_10, List.forall_mem_cons.mpr ⟨cwu8_11, List.forall_mem_cons.mpr ⟨cwu8_12, fun _ h => absurd h List.not_mem_nil⟩⟩⟩⟩⟩⟩⟩⟩⟩⟩⟩⟩⟩
theorem cwh0 : ∀ w ∈ cw0, goodWord w = true := fun w h => List.all_eq_true.mp cwg0 w h
theorem cwh1 : ∀ w ∈ cw1, goodWord w = true := fun w h => List.all_eq_true.mp cwg1 w h
theorem cwh2 : ∀ w ∈ cw2, goodWord w = true := fun w h => List.all_eq_true.mp cwg2 w h
theorem cwh3 : ∀ w ∈ cw3, goodWord w = true := fun w h => List.all_eq_true.mp cwg3 w h
theorem cwh4 : ∀ w ∈ cw4, goodWord w = true := fun w h => List.all_eq_true.mp cwg4 w h
theorem cwh5 : ∀ w ∈ cw5, goodWord w = true := fun w h => List.all_eq_true.mp cwg5 w h
theorem cwh6 : ∀ w ∈ cw6, goodWord w = true := fun w h => List.all_eq_true.mp cwg6 w h
theorem cwh7 : ∀ w ∈ cw7, goodWord w = true := fun w h => List.all_eq_true.mp cwg7 w h
theorem cwh8 : ∀ w ∈ cw8, goodWord w = true := fun w h => List.all_eq_true.mp cwg8 w h
theorem cw_good : ∀ w ∈ cwL, goodWord w = true := fun w h => (List.mem_append.mp h).elim (fun h => cwh0 w h) (fun h => (List.mem_append.mp h).elim (fun h => cwh1 w h) (fun h => (List.mem_append.mp h).elim (fun h => cwh2 w h) (fun h => (List.mem_append.mp h).elim (fun h => cwh3 w h) (fun h => (List.mem_append.mp h).elim (fun h => cwh4 w h) (fun h => (List.mem_append.mp h).elim (fun h => cwh5 w h) (fun h => (List.mem_append.mp h).elim (fun h => cwh6 w h) (fun h => (List.mem_append.mp h).elim (fun h => cwh7 w h) (fun h => cwh8 w h))))))))
theorem cw_in : ∀ w ∈ cwL, w ∈ lw_tbl := fun w h => (List.mem_append.mp h).elim (fun h => cwt0 w h) (fun h => (List.mem_append.mp h).elim (fun h => cwt1 w h) (fun h => (List.mem_append.mp h).elim (fun h => cwt2 w h) (fun h => (List.mem_append.mp h).elim (fun h => cwt3 w h) (fun h => (List.mem_append.mp h).elim (fun h => cwt4 w h) (fun h => (List.mem_append.mp h).elim (fun h => cwt5 w h) (fun h => (List.mem_append.mp h).elim (fun h => cwt6 w h) (fun h => (List.mem_append.mp h).elim (fun h => cwt7 w h) (fun h => cwt8 w h))))))))
theorem mw_0 : (Cond.initialized RL) ∈ cwL := cwi0 (List.mem_of_getElem? (i := 0) rfl)
theorem mw_1 : (Cond.initialized RX1) ∈ cwL := cwi0 (List.mem_of_getElem? (i := 1) rfl)
theorem mw_2 : (Cond.initialized RX0) ∈ cwL := cwi0 (List.mem_of_getElem? (i := 2) rfl)
theorem mw_3 : (Cond.initialized RX2) ∈ cwL := cwi0 (List.mem_of_getElem? (i := 3) rfl)
theorem mw_4 : (Cond.initialized "java/lang/Throwable") ∈ cwL := cwi0 (List.mem_of_getElem? (i := 4) rfl)
theorem mw_5 : (Cond.initialized "java/lang/Exception") ∈ cwL := cwi0 (List.mem_of_getElem? (i := 5) rfl)
theorem mw_6 : (Cond.initialized "java/lang/RuntimeException") ∈ cwL := cwi0 (List.mem_of_getElem? (i := 6) rfl)
theorem mw_7 : (Cond.initialized "java/lang/IndexOutOfBoundsException") ∈ cwL := cwi0 (List.mem_of_getElem? (i := 7) rfl)
theorem mw_8 : (Cond.initialized "java/lang/IllegalArgumentException") ∈ cwL := cwi0 (List.mem_of_getElem? (i := 8) rfl)
theorem mw_9 : (Cond.initialized "java/lang/Math") ∈ cwL := cwi0 (List.mem_of_getElem? (i := 9) rfl)
theorem mw_10 : (Cond.classLink RL 8 RX1) ∈ cwL := cwi0 (List.mem_of_getElem? (i := 10) rfl)
theorem mw_11 : (Cond.instantiable RX1 16) ∈ cwL := cwi0 (List.mem_of_getElem? (i := 11) rfl)
theorem mw_12 : (Cond.methodLink RL 50 yX1_init) ∈ cwL := cwi0 (List.mem_of_getElem? (i := 12) rfl)
theorem mw_13 : (Cond.instanceMethod yX1_init) ∈ cwL := cwi0 (List.mem_of_getElem? (i := 13) rfl)
theorem mw_14 : (Cond.code yX1_init cX1_init 2 none) ∈ cwL := cwi0 (List.mem_of_getElem? (i := 14) rfl)
theorem mw_15 : (Cond.methodLink RX1 3 objectInit) ∈ cwL := cwi0 (List.mem_of_getElem? (i := 15) rfl)
theorem mw_16 : (Cond.instanceMethod objectInit) ∈ cwL := cwi0 (List.mem_of_getElem? (i := 16) rfl)
theorem mw_17 : (Cond.code objectInit ⟨#[0xb1]⟩ 1 none) ∈ cwL := cwi0 (List.mem_of_getElem? (i := 17) rfl)
theorem mw_18 : (Cond.classLink RX1 9 RX0) ∈ cwL := cwi0 (List.mem_of_getElem? (i := 18) rfl)
theorem mw_19 : (Cond.instantiable RX0 5) ∈ cwL := cwi0 (List.mem_of_getElem? (i := 19) rfl)
theorem mw_20 : (Cond.instanceMethod yX0_init) ∈ cwL := cwi0 (List.mem_of_getElem? (i := 20) rfl)
theorem mw_21 : (Cond.code yX0_init cX0_init 1 none) ∈ cwL := cwi0 (List.mem_of_getElem? (i := 21) rfl)
theorem mw_22 : (Cond.methodLink RX0 3 objectInit) ∈ cwL := cwi0 (List.mem_of_getElem? (i := 22) rfl)
theorem mw_23 : (Cond.fieldLink RX0 9 RX0 "origins" "[I") ∈ cwL := cwi0 (List.mem_of_getElem? (i := 23) rfl)
theorem mw_24 : (Cond.fieldLink RX0 15 RX0 "amounts" "[I") ∈ cwL := cwi0 (List.mem_of_getElem? (i := 24) rfl)
theorem mw_25 : (Cond.fieldLink RX0 18 RX0 "births" "[I") ∈ cwL := cwi0 (List.mem_of_getElem? (i := 25) rfl)
theorem mw_26 : (Cond.fieldLink RX0 21 RX0 "packets" "I") ∈ cwL := cwi0 (List.mem_of_getElem? (i := 26) rfl)
theorem mw_27 : (Cond.fieldLink RX0 25 RX0 "total" "I") ∈ cwL := cwi0 (List.mem_of_getElem? (i := 27) rfl)
theorem mw_28 : (Cond.laysFinal RX0 RX0 "origins" "[I") ∈ cwL := cwi0 (List.mem_of_getElem? (i := 28) rfl)
theorem mw_29 : (Cond.laysFinal RX0 RX0 "amounts" "[I") ∈ cwL := cwi0 (List.mem_of_getElem? (i := 29) rfl)
theorem mw_30 : (Cond.laysFinal RX0 RX0 "births" "[I") ∈ cwL := cwi0 (List.mem_of_getElem? (i := 30) rfl)
theorem mw_31 : (Cond.lays RX0 RX0 "packets" "I") ∈ cwL := cwi0 (List.mem_of_getElem? (i := 31) rfl)
theorem mw_32 : (Cond.lays RX0 RX0 "total" "I") ∈ cwL := cwi0 (List.mem_of_getElem? (i := 32) rfl)
theorem mw_33 : (Cond.superclass RX0 "java/lang/Object") ∈ cwL := cwi0 (List.mem_of_getElem? (i := 33) rfl)
theorem mw_34 : (Cond.arrayClass .int) ∈ cwL := cwi0 (List.mem_of_getElem? (i := 34) rfl)
theorem mw_35 : (Cond.fieldLink RX1 11 RX1 "stocks" "[LPacketStores$Row;") ∈ cwL := cwi0 (List.mem_of_getElem? (i := 35) rfl)
theorem mw_36 : (Cond.fieldLink RX1 15 RX1 "rates" "[I") ∈ cwL := cwi0 (List.mem_of_getElem? (i := 36) rfl)
theorem mw_37 : (Cond.fieldLink RX1 19 RX1 "madeKinds" "[I") ∈ cwL := cwi0 (List.mem_of_getElem? (i := 37) rfl)
theorem mw_38 : (Cond.fieldLink RX1 22 RX1 "placeColumns" "[I") ∈ cwL := cwi0 (List.mem_of_getElem? (i := 38) rfl)
theorem mw_39 : (Cond.fieldLink RX1 25 RX1 "placeRows" "[I") ∈ cwL := cwi0 (List.mem_of_getElem? (i := 39) rfl)
theorem mw_40 : (Cond.fieldLink RX1 28 RX1 "acceptedKinds" "[I") ∈ cwL := cwi0 (List.mem_of_getElem? (i := 40) rfl)
theorem mw_41 : (Cond.fieldLink RX1 31 RX1 "aboard" "[LPacketStores$Row;") ∈ cwL := cwi0 (List.mem_of_getElem? (i := 41) rfl)
theorem mw_42 : (Cond.fieldLink RX1 34 RX1 "wagonKinds" "[I") ∈ cwL := cwi0 (List.mem_of_getElem? (i := 42) rfl)
theorem mw_43 : (Cond.fieldLink RX1 37 RX1 "wagonRooms" "[I") ∈ cwL := cwi0 (List.mem_of_getElem? (i := 43) rfl)
theorem mw_44 : (Cond.fieldLink RX1 40 RX1 "produced" "[I") ∈ cwL := cwi0 (List.mem_of_getElem? (i := 44) rfl)
theorem mw_45 : (Cond.fieldLink RX1 43 RX1 "delivered" "[I") ∈ cwL := cwi0 (List.mem_of_getElem? (i := 45) rfl)
theorem mw_46 : (Cond.fieldLink RX1 46 RX1 "dumped" "[I") ∈ cwL := cwi0 (List.mem_of_getElem? (i := 46) rfl)
theorem mw_47 : (Cond.fieldLink RX1 49 RX1 "time" "I") ∈ cwL := cwi0 (List.mem_of_getElem? (i := 47) rfl)
theorem mw_48 : (Cond.fieldLink RX1 53 RX1 "money" "I") ∈ cwL := cwi0 (List.mem_of_getElem? (i := 48) rfl)
theorem mw_49 : (Cond.fieldLink RX1 56 RX1 "earned" "I") ∈ cwL := cwi0 (List.mem_of_getElem? (i := 49) rfl)
theorem mw_50 : (Cond.fieldLink RX1 59 RX1 "spent" "I") ∈ cwL := cwi0 (List.mem_of_getElem? (i := 50) rfl)
theorem mw_51 : (Cond.laysFinal RX1 RX1 "stocks" "[LPacketStores$Row;") ∈ cwL := cwi0 (List.mem_of_getElem? (i := 51) rfl)
theorem mw_52 : (Cond.laysFinal RX1 RX1 "rates" "[I") ∈ cwL := cwi0 (List.mem_of_getElem? (i := 52) rfl)
theorem mw_53 : (Cond.laysFinal RX1 RX1 "madeKinds" "[I") ∈ cwL := cwi0 (List.mem_of_getElem? (i := 53) rfl)
theorem mw_54 : (Cond.laysFinal RX1 RX1 "placeColumns" "[I") ∈ cwL := cwi0 (List.mem_of_getElem? (i := 54) rfl)
theorem mw_55 : (Cond.laysFinal RX1 RX1 "placeRows" "[I") ∈ cwL := cwi0 (List.mem_of_getElem? (i := 55) rfl)
theorem mw_56 : (Cond.laysFinal RX1 RX1 "acceptedKinds" "[I") ∈ cwL := cwi0 (List.mem_of_getElem? (i := 56) rfl)
theorem mw_57 : (Cond.laysFinal RX1 RX1 "aboard" "[LPacketStores$Row;") ∈ cwL := cwi0 (List.mem_of_getElem? (i := 57) rfl)
theorem mw_58 : (Cond.laysFinal RX1 RX1 "wagonKinds" "[I") ∈ cwL := cwi0 (List.mem_of_getElem? (i := 58) rfl)
theorem mw_59 : (Cond.laysFinal RX1 RX1 "wagonRooms" "[I") ∈ cwL := cwi0 (List.mem_of_getElem? (i := 59) rfl)
theorem mw_60 : (Cond.laysFinal RX1 RX1 "produced" "[I") ∈ cwL := cwi1 (List.mem_of_getElem? (i := 0) rfl)
theorem mw_61 : (Cond.laysFinal RX1 RX1 "delivered" "[I") ∈ cwL := cwi1 (List.mem_of_getElem? (i := 1) rfl)
theorem mw_62 : (Cond.laysFinal RX1 RX1 "dumped" "[I") ∈ cwL := cwi1 (List.mem_of_getElem? (i := 2) rfl)
theorem mw_63 : (Cond.lays RX1 RX1 "time" "I") ∈ cwL := cwi1 (List.mem_of_getElem? (i := 3) rfl)
theorem mw_64 : (Cond.lays RX1 RX1 "money" "I") ∈ cwL := cwi1 (List.mem_of_getElem? (i := 4) rfl)
theorem mw_65 : (Cond.lays RX1 RX1 "earned" "I") ∈ cwL := cwi1 (List.mem_of_getElem? (i := 5) rfl)
theorem mw_66 : (Cond.lays RX1 RX1 "spent" "I") ∈ cwL := cwi1 (List.mem_of_getElem? (i := 6) rfl)
theorem mw_67 : (Cond.superclass RX1 "java/lang/Object") ∈ cwL := cwi1 (List.mem_of_getElem? (i := 7) rfl)
theorem mw_68 : (Cond.methodLink RL 97 yX1_spend) ∈ cwL := cwi1 (List.mem_of_getElem? (i := 8) rfl)
theorem mw_69 : (Cond.instanceMethod yX1_spend) ∈ cwL := cwi1 (List.mem_of_getElem? (i := 9) rfl)
theorem mw_70 : (Cond.selects RX1 yX1_spend yX1_spend) ∈ cwL := cwi1 (List.mem_of_getElem? (i := 10) rfl)
theorem mw_71 : (Cond.code yX1_spend cX1_spend 2 (some .boolean)) ∈ cwL := cwi1 (List.mem_of_getElem? (i := 11) rfl)
theorem mw_72 : (Cond.constant RX1 100 (2000000000)) ∈ cwL := cwi1 (List.mem_of_getElem? (i := 12) rfl)
theorem mw_73 : (Cond.methodLink RL 102 yX1_packet) ∈ cwL := cwi1 (List.mem_of_getElem? (i := 13) rfl)
theorem mw_74 : (Cond.instanceMethod yX1_packet) ∈ cwL := cwi1 (List.mem_of_getElem? (i := 14) rfl)
theorem mw_75 : (Cond.selects RX1 yX1_packet yX1_packet) ∈ cwL := cwi1 (List.mem_of_getElem? (i := 15) rfl)
theorem mw_76 : (Cond.code yX1_packet cX1_packet 6 (some .int)) ∈ cwL := cwi1 (List.mem_of_getElem? (i := 16) rfl)
theorem mw_77 : (Cond.methodLink RX1 131 yX1_rowAt) ∈ cwL := cwi1 (List.mem_of_getElem? (i := 17) rfl)
theorem mw_78 : (Cond.instanceMethod yX1_rowAt) ∈ cwL := cwi1 (List.mem_of_getElem? (i := 18) rfl)
theorem mw_79 : (Cond.code yX1_rowAt cX1_rowAt 3 (some (.object "PacketStores$Row"))) ∈ cwL := cwi1 (List.mem_of_getElem? (i := 19) rfl)
theorem mw_80 : (Cond.methodLink RX1 173 yX1_isStation) ∈ cwL := cwi1 (List.mem_of_getElem? (i := 20) rfl)
theorem mw_81 : (Cond.static yX1_isStation) ∈ cwL := cwi1 (List.mem_of_getElem? (i := 21) rfl)
theorem mw_82 : (Cond.code yX1_isStation cX1_isStation 1 (some .boolean)) ∈ cwL := cwi1 (List.mem_of_getElem? (i := 22) rfl)
theorem mw_83 : (Cond.methodLink RX1 78 yX1_isKind) ∈ cwL := cwi1 (List.mem_of_getElem? (i := 23) rfl)
theorem mw_84 : (Cond.static yX1_isKind) ∈ cwL := cwi1 (List.mem_of_getElem? (i := 24) rfl)
theorem mw_85 : (Cond.code yX1_isKind cX1_isKind 1 (some .boolean)) ∈ cwL := cwi1 (List.mem_of_getElem? (i := 25) rfl)
theorem mw_86 : (Cond.methodLink RX1 74 yX1_stockIndex) ∈ cwL := cwi1 (List.mem_of_getElem? (i := 26) rfl)
theorem mw_87 : (Cond.static yX1_stockIndex) ∈ cwL := cwi1 (List.mem_of_getElem? (i := 27) rfl)
theorem mw_88 : (Cond.code yX1_stockIndex cX1_stockIndex 2 (some .int)) ∈ cwL := cwi1 (List.mem_of_getElem? (i := 28) rfl)
theorem mw_89 : (Cond.methodLink RX1 135 yX0_look) ∈ cwL := cwi1 (List.mem_of_getElem? (i := 29) rfl)
theorem mw_90 : (Cond.instanceMethod yX0_look) ∈ cwL := cwi1 (List.mem_of_getElem? (i := 30) rfl)
theorem mw_91 : (Cond.selects RX0 yX0_look yX0_look) ∈ cwL := cwi1 (List.mem_of_getElem? (i := 31) rfl)
theorem mw_92 : (Cond.code yX0_look cX0_look 3 (some .int)) ∈ cwL := cwi1 (List.mem_of_getElem? (i := 32) rfl)
theorem mw_93 : (Cond.methodLink RL 107 yX1_units) ∈ cwL := cwi1 (List.mem_of_getElem? (i := 33) rfl)
theorem mw_94 : (Cond.instanceMethod yX1_units) ∈ cwL := cwi1 (List.mem_of_getElem? (i := 34) rfl)
theorem mw_95 : (Cond.selects RX1 yX1_units yX1_units) ∈ cwL := cwi1 (List.mem_of_getElem? (i := 35) rfl)
theorem mw_96 : (Cond.code yX1_units cX1_units 4 (some .int)) ∈ cwL := cwi1 (List.mem_of_getElem? (i := 36) rfl)
theorem mw_97 : (Cond.methodLink RX1 92 yX0_total) ∈ cwL := cwi1 (List.mem_of_getElem? (i := 37) rfl)
theorem mw_98 : (Cond.instanceMethod yX0_total) ∈ cwL := cwi1 (List.mem_of_getElem? (i := 38) rfl)
theorem mw_99 : (Cond.selects RX0 yX0_total yX0_total) ∈ cwL := cwi1 (List.mem_of_getElem? (i := 39) rfl)
theorem mw_100 : (Cond.code yX0_total cX0_total 1 (some .int)) ∈ cwL := cwi1 (List.mem_of_getElem? (i := 40) rfl)
theorem mw_101 : (Cond.methodLink RL 112 yX1_count) ∈ cwL := cwi1 (List.mem_of_getElem? (i := 41) rfl)
theorem mw_102 : (Cond.instanceMethod yX1_count) ∈ cwL := cwi1 (List.mem_of_getElem? (i := 42) rfl)
theorem mw_103 : (Cond.selects RX1 yX1_count yX1_count) ∈ cwL := cwi1 (List.mem_of_getElem? (i := 43) rfl)
theorem mw_104 : (Cond.code yX1_count cX1_count 3 (some .int)) ∈ cwL := cwi1 (List.mem_of_getElem? (i := 44) rfl)
theorem mw_105 : (Cond.methodLink RX1 138 yX1_unitsInStocks) ∈ cwL := cwi1 (List.mem_of_getElem? (i := 45) rfl)
theorem mw_106 : (Cond.instanceMethod yX1_unitsInStocks) ∈ cwL := cwi1 (List.mem_of_getElem? (i := 46) rfl)
theorem mw_107 : (Cond.code yX1_unitsInStocks cX1_unitsInStocks 4 (some .int)) ∈ cwL := cwi1 (List.mem_of_getElem? (i := 47) rfl)
theorem mw_108 : (Cond.methodLink RX1 142 yX1_unitsInWagons) ∈ cwL := cwi1 (List.mem_of_getElem? (i := 48) rfl)
theorem mw_109 : (Cond.instanceMethod yX1_unitsInWagons) ∈ cwL := cwi1 (List.mem_of_getElem? (i := 49) rfl)
theorem mw_110 : (Cond.code yX1_unitsInWagons cX1_unitsInWagons 4 (some .int)) ∈ cwL := cwi1 (List.mem_of_getElem? (i := 50) rfl)
theorem mw_111 : (Cond.methodLink RL 116 yX1_sum) ∈ cwL := cwi1 (List.mem_of_getElem? (i := 51) rfl)
theorem mw_112 : (Cond.instanceMethod yX1_sum) ∈ cwL := cwi1 (List.mem_of_getElem? (i := 52) rfl)
theorem mw_113 : (Cond.selects RX1 yX1_sum yX1_sum) ∈ cwL := cwi1 (List.mem_of_getElem? (i := 53) rfl)
theorem mw_114 : (Cond.code yX1_sum cX1_sum 2 (some .int)) ∈ cwL := cwi1 (List.mem_of_getElem? (i := 54) rfl)
theorem mw_115 : (Cond.methodLink RL 54 yL_place) ∈ cwL := cwi1 (List.mem_of_getElem? (i := 55) rfl)
theorem mw_116 : (Cond.static yL_place) ∈ cwL := cwi1 (List.mem_of_getElem? (i := 56) rfl)
theorem mw_117 : (Cond.codeWith yL_place cL_place 5 (some .int) [(0, 7, 10, 13), (0, 7, 14, 15)]) ∈ cwL := cwi1 (List.mem_of_getElem? (i := 57) rfl)
theorem mw_118 : (Cond.classLink RL 13 "java/lang/IndexOutOfBoundsException") ∈ cwL := cwi1 (List.mem_of_getElem? (i := 58) rfl)
theorem mw_119 : (Cond.classLink RL 15 "java/lang/IllegalArgumentException") ∈ cwL := cwi1 (List.mem_of_getElem? (i := 59) rfl)
theorem mw_120 : (Cond.methodLink RL 7 yX1_place) ∈ cwL := cwi2 (List.mem_of_getElem? (i := 0) rfl)
theorem mw_121 : (Cond.instanceMethod yX1_place) ∈ cwL := cwi2 (List.mem_of_getElem? (i := 1) rfl)
theorem mw_122 : (Cond.selects RX1 yX1_place yX1_place) ∈ cwL := cwi2 (List.mem_of_getElem? (i := 2) rfl)
theorem mw_123 : (Cond.code yX1_place cX1_place 4 none) ∈ cwL := cwi2 (List.mem_of_getElem? (i := 3) rfl)
theorem mw_124 : (Cond.methodLink RX1 63 yX1_checkStation) ∈ cwL := cwi2 (List.mem_of_getElem? (i := 4) rfl)
theorem mw_125 : (Cond.static yX1_checkStation) ∈ cwL := cwi2 (List.mem_of_getElem? (i := 5) rfl)
theorem mw_126 : (Cond.code yX1_checkStation cX1_checkStation 1 none) ∈ cwL := cwi2 (List.mem_of_getElem? (i := 6) rfl)
theorem mw_127 : (Cond.classLink RX1 180 "java/lang/IndexOutOfBoundsException") ∈ cwL := cwi2 (List.mem_of_getElem? (i := 7) rfl)
theorem mw_128 : (Cond.instantiable "java/lang/IndexOutOfBoundsException" 6) ∈ cwL := cwi2 (List.mem_of_getElem? (i := 8) rfl)
theorem mw_129 : (Cond.selects "java/lang/IndexOutOfBoundsException" ⟨"java/lang/Throwable", "fillInStackTrace", "(I)Ljava/lang/Throwable;"⟩ ⟨"java/lang/Throwable", "fillInStackTrace", "(I)Ljava/lang/Throwable;"⟩) ∈ cwL := cwi2 (List.mem_of_getElem? (i := 9) rfl)
theorem mw_130 : (Cond.selects "java/lang/IndexOutOfBoundsException" ⟨"java/lang/Throwable", "fillInStackTrace", "()Ljava/lang/Throwable;"⟩ ⟨"java/lang/Throwable", "fillInStackTrace", "()Ljava/lang/Throwable;"⟩) ∈ cwL := cwi2 (List.mem_of_getElem? (i := 10) rfl)
theorem mw_131 : (Cond.lays "java/lang/IndexOutOfBoundsException" "java/lang/Throwable" "cause" "Ljava/lang/Throwable;") ∈ cwL := cwi2 (List.mem_of_getElem? (i := 11) rfl)
theorem mw_132 : (Cond.lays "java/lang/Throwable" "java/lang/Throwable" "cause" "Ljava/lang/Throwable;") ∈ cwL := cwi2 (List.mem_of_getElem? (i := 12) rfl)
theorem mw_133 : (Cond.lays "java/lang/IndexOutOfBoundsException" "java/lang/Throwable" "stackTrace" "[Ljava/lang/StackTraceElement;") ∈ cwL := cwi2 (List.mem_of_getElem? (i := 13) rfl)
theorem mw_134 : (Cond.lays "java/lang/Throwable" "java/lang/Throwable" "stackTrace" "[Ljava/lang/StackTraceElement;") ∈ cwL := cwi2 (List.mem_of_getElem? (i := 14) rfl)
theorem mw_135 : (Cond.lays "java/lang/IndexOutOfBoundsException" "java/lang/Throwable" "suppressedExceptions" "Ljava/util/List;") ∈ cwL := cwi2 (List.mem_of_getElem? (i := 15) rfl)
theorem mw_136 : (Cond.lays "java/lang/Throwable" "java/lang/Throwable" "suppressedExceptions" "Ljava/util/List;") ∈ cwL := cwi2 (List.mem_of_getElem? (i := 16) rfl)
theorem mw_137 : (Cond.lays "java/lang/IndexOutOfBoundsException" "java/lang/Throwable" "detailMessage" "Ljava/lang/String;") ∈ cwL := cwi2 (List.mem_of_getElem? (i := 17) rfl)
theorem mw_138 : (Cond.lays "java/lang/Throwable" "java/lang/Throwable" "detailMessage" "Ljava/lang/String;") ∈ cwL := cwi2 (List.mem_of_getElem? (i := 18) rfl)
theorem mw_139 : (Cond.lays "java/lang/IndexOutOfBoundsException" "java/lang/Throwable" "backtrace" "Ljava/lang/Object;") ∈ cwL := cwi2 (List.mem_of_getElem? (i := 19) rfl)
theorem mw_140 : (Cond.lays "java/lang/Throwable" "java/lang/Throwable" "backtrace" "Ljava/lang/Object;") ∈ cwL := cwi2 (List.mem_of_getElem? (i := 20) rfl)
theorem mw_141 : (Cond.fieldLink "java/lang/Throwable" 198 "java/lang/Throwable" "backtrace" "Ljava/lang/Object;") ∈ cwL := cwi2 (List.mem_of_getElem? (i := 21) rfl)
theorem mw_142 : (Cond.superclass "java/lang/Throwable" "java/lang/Object") ∈ cwL := cwi2 (List.mem_of_getElem? (i := 22) rfl)
theorem mw_143 : (Cond.instanceMethod ⟨"java/lang/Throwable", "<init>", "()V"⟩) ∈ cwL := cwi2 (List.mem_of_getElem? (i := 23) rfl)
theorem mw_144 : (Cond.code ⟨"java/lang/Throwable", "<init>", "()V"⟩ prog_11_method_1_code 1 none) ∈ cwL := cwi2 (List.mem_of_getElem? (i := 24) rfl)
theorem mw_145 : (Cond.methodLink "java/lang/Throwable" 1 objectInit) ∈ cwL := cwi2 (List.mem_of_getElem? (i := 25) rfl)
theorem mw_146 : (Cond.fieldLink "java/lang/Throwable" 13 "java/lang/Throwable" "UNASSIGNED_STACK" "[Ljava/lang/StackTraceElement;") ∈ cwL := cwi2 (List.mem_of_getElem? (i := 26) rfl)
theorem mw_147 : (Cond.fieldLink "java/lang/Throwable" 20 "java/lang/Throwable" "SUPPRESSED_SENTINEL" "Ljava/util/List;") ∈ cwL := cwi2 (List.mem_of_getElem? (i := 27) rfl)
theorem mw_148 : (Cond.methodLink "java/lang/Throwable" 27 ⟨"java/lang/Throwable", "fillInStackTrace", "()Ljava/lang/Throwable;"⟩) ∈ cwL := cwi2 (List.mem_of_getElem? (i := 28) rfl)
theorem mw_149 : (Cond.instanceMethod ⟨"java/lang/Throwable", "fillInStackTrace", "()Ljava/lang/Throwable;"⟩) ∈ cwL := cwi2 (List.mem_of_getElem? (i := 29) rfl)
theorem mw_150 : (Cond.sameMethod "java/lang/Throwable" "java/lang/Throwable" "fillInStackTrace" "()Ljava/lang/Throwable;") ∈ cwL := cwi2 (List.mem_of_getElem? (i := 30) rfl)
theorem mw_151 : (Cond.selects "java/lang/IllegalArgumentException" ⟨"java/lang/Throwable", "fillInStackTrace", "()Ljava/lang/Throwable;"⟩ ⟨"java/lang/Throwable", "fillInStackTrace", "()Ljava/lang/Throwable;"⟩) ∈ cwL := cwi2 (List.mem_of_getElem? (i := 31) rfl)
theorem mw_152 : (Cond.codeSync ⟨"java/lang/Throwable", "fillInStackTrace", "()Ljava/lang/Throwable;"⟩ prog_11_method_18_code 1 (some (.object "java/lang/Throwable"))) ∈ cwL := cwi2 (List.mem_of_getElem? (i := 32) rfl)
theorem mw_153 : (Cond.methodLink "java/lang/Throwable" 202 ⟨"java/lang/Throwable", "fillInStackTrace", "(I)Ljava/lang/Throwable;"⟩) ∈ cwL := cwi2 (List.mem_of_getElem? (i := 33) rfl)
theorem mw_154 : (Cond.instanceMethod ⟨"java/lang/Throwable", "fillInStackTrace", "(I)Ljava/lang/Throwable;"⟩) ∈ cwL := cwi2 (List.mem_of_getElem? (i := 34) rfl)
theorem mw_155 : (Cond.instantiable "java/lang/Throwable" 6) ∈ cwL := cwi2 (List.mem_of_getElem? (i := 35) rfl)
theorem mw_156 : (Cond.native ⟨"java/lang/Throwable", "fillInStackTrace", "(I)Ljava/lang/Throwable;"⟩) ∈ cwL := cwi2 (List.mem_of_getElem? (i := 36) rfl)
theorem mw_157 : (Cond.methodLink RX1 184 ⟨"java/lang/IndexOutOfBoundsException", "<init>", "(Ljava/lang/String;)V"⟩) ∈ cwL := cwi2 (List.mem_of_getElem? (i := 37) rfl)
theorem mw_158 : (Cond.instanceMethod ⟨"java/lang/IndexOutOfBoundsException", "<init>", "(Ljava/lang/String;)V"⟩) ∈ cwL := cwi2 (List.mem_of_getElem? (i := 38) rfl)
theorem mw_159 : (Cond.code ⟨"java/lang/IndexOutOfBoundsException", "<init>", "(Ljava/lang/String;)V"⟩ prog_7_method_2_code 2 none) ∈ cwL := cwi2 (List.mem_of_getElem? (i := 39) rfl)
theorem mw_160 : (Cond.methodLink "java/lang/IndexOutOfBoundsException" 7 ⟨"java/lang/RuntimeException", "<init>", "(Ljava/lang/String;)V"⟩) ∈ cwL := cwi2 (List.mem_of_getElem? (i := 40) rfl)
theorem mw_161 : (Cond.instanceMethod ⟨"java/lang/RuntimeException", "<init>", "(Ljava/lang/String;)V"⟩) ∈ cwL := cwi2 (List.mem_of_getElem? (i := 41) rfl)
theorem mw_162 : (Cond.code ⟨"java/lang/RuntimeException", "<init>", "(Ljava/lang/String;)V"⟩ prog_9_method_2_code 2 none) ∈ cwL := cwi2 (List.mem_of_getElem? (i := 42) rfl)
theorem mw_163 : (Cond.methodLink "java/lang/RuntimeException" 7 ⟨"java/lang/Exception", "<init>", "(Ljava/lang/String;)V"⟩) ∈ cwL := cwi2 (List.mem_of_getElem? (i := 43) rfl)
theorem mw_164 : (Cond.instanceMethod ⟨"java/lang/Exception", "<init>", "(Ljava/lang/String;)V"⟩) ∈ cwL := cwi2 (List.mem_of_getElem? (i := 44) rfl)
theorem mw_165 : (Cond.code ⟨"java/lang/Exception", "<init>", "(Ljava/lang/String;)V"⟩ prog_5_method_2_code 2 none) ∈ cwL := cwi2 (List.mem_of_getElem? (i := 45) rfl)
theorem mw_166 : (Cond.methodLink "java/lang/Exception" 7 ⟨"java/lang/Throwable", "<init>", "(Ljava/lang/String;)V"⟩) ∈ cwL := cwi2 (List.mem_of_getElem? (i := 46) rfl)
theorem mw_167 : (Cond.instanceMethod ⟨"java/lang/Throwable", "<init>", "(Ljava/lang/String;)V"⟩) ∈ cwL := cwi2 (List.mem_of_getElem? (i := 47) rfl)
theorem mw_168 : (Cond.code ⟨"java/lang/Throwable", "<init>", "(Ljava/lang/String;)V"⟩ prog_11_method_2_code 2 none) ∈ cwL := cwi2 (List.mem_of_getElem? (i := 48) rfl)
theorem mw_169 : (Cond.fieldLink "java/lang/Throwable" 31 "java/lang/Throwable" "detailMessage" "Ljava/lang/String;") ∈ cwL := cwi2 (List.mem_of_getElem? (i := 49) rfl)
theorem mw_170 : (Cond.fieldLink "java/lang/Throwable" 7 "java/lang/Throwable" "cause" "Ljava/lang/Throwable;") ∈ cwL := cwi2 (List.mem_of_getElem? (i := 50) rfl)
theorem mw_171 : (Cond.fieldLink "java/lang/Throwable" 17 "java/lang/Throwable" "stackTrace" "[Ljava/lang/StackTraceElement;") ∈ cwL := cwi2 (List.mem_of_getElem? (i := 51) rfl)
theorem mw_172 : (Cond.fieldLink "java/lang/Throwable" 24 "java/lang/Throwable" "suppressedExceptions" "Ljava/util/List;") ∈ cwL := cwi2 (List.mem_of_getElem? (i := 52) rfl)
theorem mw_173 : (Cond.lays "java/lang/IndexOutOfBoundsException" "java/lang/Throwable" "depth" "I") ∈ cwL := cwi2 (List.mem_of_getElem? (i := 53) rfl)
theorem mw_174 : (Cond.superclass "java/lang/IndexOutOfBoundsException" "java/lang/RuntimeException") ∈ cwL := cwi2 (List.mem_of_getElem? (i := 54) rfl)
theorem mw_175 : (Cond.arrayClass .byte) ∈ cwL := cwi2 (List.mem_of_getElem? (i := 55) rfl)
theorem mw_176 : (Cond.methodLink RX1 67 yX1_checkRange) ∈ cwL := cwi2 (List.mem_of_getElem? (i := 56) rfl)
theorem mw_177 : (Cond.static yX1_checkRange) ∈ cwL := cwi2 (List.mem_of_getElem? (i := 57) rfl)
theorem mw_178 : (Cond.code yX1_checkRange cX1_checkRange 2 none) ∈ cwL := cwi2 (List.mem_of_getElem? (i := 58) rfl)
theorem mw_179 : (Cond.classLink RX1 82 "java/lang/IllegalArgumentException") ∈ cwL := cwi2 (List.mem_of_getElem? (i := 59) rfl)
theorem mw_180 : (Cond.instantiable "java/lang/IllegalArgumentException" 6) ∈ cwL := cwi3 (List.mem_of_getElem? (i := 0) rfl)
theorem mw_181 : (Cond.selects "java/lang/IllegalArgumentException" ⟨"java/lang/Throwable", "fillInStackTrace", "(I)Ljava/lang/Throwable;"⟩ ⟨"java/lang/Throwable", "fillInStackTrace", "(I)Ljava/lang/Throwable;"⟩) ∈ cwL := cwi3 (List.mem_of_getElem? (i := 1) rfl)
theorem mw_182 : (Cond.lays "java/lang/IllegalArgumentException" "java/lang/Throwable" "cause" "Ljava/lang/Throwable;") ∈ cwL := cwi3 (List.mem_of_getElem? (i := 2) rfl)
theorem mw_183 : (Cond.lays "java/lang/IllegalArgumentException" "java/lang/Throwable" "stackTrace" "[Ljava/lang/StackTraceElement;") ∈ cwL := cwi3 (List.mem_of_getElem? (i := 3) rfl)
theorem mw_184 : (Cond.lays "java/lang/IllegalArgumentException" "java/lang/Throwable" "suppressedExceptions" "Ljava/util/List;") ∈ cwL := cwi3 (List.mem_of_getElem? (i := 4) rfl)
theorem mw_185 : (Cond.lays "java/lang/IllegalArgumentException" "java/lang/Throwable" "detailMessage" "Ljava/lang/String;") ∈ cwL := cwi3 (List.mem_of_getElem? (i := 5) rfl)
theorem mw_186 : (Cond.lays "java/lang/IllegalArgumentException" "java/lang/Throwable" "backtrace" "Ljava/lang/Object;") ∈ cwL := cwi3 (List.mem_of_getElem? (i := 6) rfl)
theorem mw_187 : (Cond.methodLink RX1 86 ⟨"java/lang/IllegalArgumentException", "<init>", "(Ljava/lang/String;)V"⟩) ∈ cwL := cwi3 (List.mem_of_getElem? (i := 7) rfl)
theorem mw_188 : (Cond.instanceMethod ⟨"java/lang/IllegalArgumentException", "<init>", "(Ljava/lang/String;)V"⟩) ∈ cwL := cwi3 (List.mem_of_getElem? (i := 8) rfl)
theorem mw_189 : (Cond.code ⟨"java/lang/IllegalArgumentException", "<init>", "(Ljava/lang/String;)V"⟩ prog_6_method_2_code 2 none) ∈ cwL := cwi3 (List.mem_of_getElem? (i := 9) rfl)
theorem mw_190 : (Cond.methodLink "java/lang/IllegalArgumentException" 7 ⟨"java/lang/RuntimeException", "<init>", "(Ljava/lang/String;)V"⟩) ∈ cwL := cwi3 (List.mem_of_getElem? (i := 10) rfl)
theorem mw_191 : (Cond.lays "java/lang/IllegalArgumentException" "java/lang/Throwable" "depth" "I") ∈ cwL := cwi3 (List.mem_of_getElem? (i := 11) rfl)
theorem mw_192 : (Cond.superclass "java/lang/IllegalArgumentException" "java/lang/RuntimeException") ∈ cwL := cwi3 (List.mem_of_getElem? (i := 12) rfl)
theorem mw_193 : (Cond.methodLink RL 64 yL_rate) ∈ cwL := cwi3 (List.mem_of_getElem? (i := 13) rfl)
theorem mw_194 : (Cond.static yL_rate) ∈ cwL := cwi3 (List.mem_of_getElem? (i := 14) rfl)
theorem mw_195 : (Cond.codeWith yL_rate cL_rate 5 (some .int) [(0, 7, 10, 13), (0, 7, 14, 15)]) ∈ cwL := cwi3 (List.mem_of_getElem? (i := 15) rfl)
theorem mw_196 : (Cond.methodLink RL 17 yX1_rate) ∈ cwL := cwi3 (List.mem_of_getElem? (i := 16) rfl)
theorem mw_197 : (Cond.instanceMethod yX1_rate) ∈ cwL := cwi3 (List.mem_of_getElem? (i := 17) rfl)
theorem mw_198 : (Cond.selects RX1 yX1_rate yX1_rate) ∈ cwL := cwi3 (List.mem_of_getElem? (i := 18) rfl)
theorem mw_199 : (Cond.code yX1_rate cX1_rate 4 none) ∈ cwL := cwi3 (List.mem_of_getElem? (i := 19) rfl)
theorem mw_200 : (Cond.methodLink RX1 71 yX1_checkKind) ∈ cwL := cwi3 (List.mem_of_getElem? (i := 20) rfl)
theorem mw_201 : (Cond.static yX1_checkKind) ∈ cwL := cwi3 (List.mem_of_getElem? (i := 21) rfl)
theorem mw_202 : (Cond.code yX1_checkKind cX1_checkKind 1 none) ∈ cwL := cwi3 (List.mem_of_getElem? (i := 22) rfl)
theorem mw_203 : (Cond.methodLink RL 67 yL_accept) ∈ cwL := cwi3 (List.mem_of_getElem? (i := 23) rfl)
theorem mw_204 : (Cond.static yL_accept) ∈ cwL := cwi3 (List.mem_of_getElem? (i := 24) rfl)
theorem mw_205 : (Cond.codeWith yL_accept cL_accept 4 (some .int) [(0, 6, 9, 13), (0, 6, 12, 15)]) ∈ cwL := cwi3 (List.mem_of_getElem? (i := 25) rfl)
theorem mw_206 : (Cond.methodLink RL 20 yX1_accept) ∈ cwL := cwi3 (List.mem_of_getElem? (i := 26) rfl)
theorem mw_207 : (Cond.instanceMethod yX1_accept) ∈ cwL := cwi3 (List.mem_of_getElem? (i := 27) rfl)
theorem mw_208 : (Cond.selects RX1 yX1_accept yX1_accept) ∈ cwL := cwi3 (List.mem_of_getElem? (i := 28) rfl)
theorem mw_209 : (Cond.code yX1_accept cX1_accept 3 none) ∈ cwL := cwi3 (List.mem_of_getElem? (i := 29) rfl)
theorem mw_210 : (Cond.methodLink RL 71 yL_make) ∈ cwL := cwi3 (List.mem_of_getElem? (i := 30) rfl)
theorem mw_211 : (Cond.static yL_make) ∈ cwL := cwi3 (List.mem_of_getElem? (i := 31) rfl)
theorem mw_212 : (Cond.codeWith yL_make cL_make 5 (some .int) [(0, 7, 10, 13), (0, 7, 14, 15)]) ∈ cwL := cwi3 (List.mem_of_getElem? (i := 32) rfl)
theorem mw_213 : (Cond.methodLink RL 24 yX1_make) ∈ cwL := cwi3 (List.mem_of_getElem? (i := 33) rfl)
theorem mw_214 : (Cond.instanceMethod yX1_make) ∈ cwL := cwi3 (List.mem_of_getElem? (i := 34) rfl)
theorem mw_215 : (Cond.selects RX1 yX1_make yX1_make) ∈ cwL := cwi3 (List.mem_of_getElem? (i := 35) rfl)
theorem mw_216 : (Cond.code yX1_make cX1_make 4 none) ∈ cwL := cwi3 (List.mem_of_getElem? (i := 36) rfl)
theorem mw_217 : (Cond.methodLink RL 74 yL_wagon) ∈ cwL := cwi3 (List.mem_of_getElem? (i := 37) rfl)
theorem mw_218 : (Cond.static yL_wagon) ∈ cwL := cwi3 (List.mem_of_getElem? (i := 38) rfl)
theorem mw_219 : (Cond.codeWith yL_wagon cL_wagon 5 (some .int) [(0, 7, 10, 13), (0, 7, 14, 15)]) ∈ cwL := cwi3 (List.mem_of_getElem? (i := 39) rfl)
theorem mw_220 : (Cond.methodLink RL 27 yX1_wagon) ∈ cwL := cwi3 (List.mem_of_getElem? (i := 40) rfl)
theorem mw_221 : (Cond.instanceMethod yX1_wagon) ∈ cwL := cwi3 (List.mem_of_getElem? (i := 41) rfl)
theorem mw_222 : (Cond.selects RX1 yX1_wagon yX1_wagon) ∈ cwL := cwi3 (List.mem_of_getElem? (i := 42) rfl)
theorem mw_223 : (Cond.code yX1_wagon cX1_wagon 5 none) ∈ cwL := cwi3 (List.mem_of_getElem? (i := 43) rfl)
theorem mw_224 : (Cond.methodLink RX1 89 yX1_checkWagon) ∈ cwL := cwi3 (List.mem_of_getElem? (i := 44) rfl)
theorem mw_225 : (Cond.static yX1_checkWagon) ∈ cwL := cwi3 (List.mem_of_getElem? (i := 45) rfl)
theorem mw_226 : (Cond.code yX1_checkWagon cX1_checkWagon 1 none) ∈ cwL := cwi3 (List.mem_of_getElem? (i := 46) rfl)
theorem mw_227 : (Cond.methodLink RL 77 yL_pass) ∈ cwL := cwi3 (List.mem_of_getElem? (i := 47) rfl)
theorem mw_228 : (Cond.static yL_pass) ∈ cwL := cwi3 (List.mem_of_getElem? (i := 48) rfl)
theorem mw_229 : (Cond.codeWith yL_pass cL_pass 4 (some .int) [(0, 9, 12, 15)]) ∈ cwL := cwi3 (List.mem_of_getElem? (i := 49) rfl)
theorem mw_230 : (Cond.methodLink RL 30 yX1_pass) ∈ cwL := cwi3 (List.mem_of_getElem? (i := 50) rfl)
theorem mw_231 : (Cond.instanceMethod yX1_pass) ∈ cwL := cwi3 (List.mem_of_getElem? (i := 51) rfl)
theorem mw_232 : (Cond.selects RX1 yX1_pass yX1_pass) ∈ cwL := cwi3 (List.mem_of_getElem? (i := 52) rfl)
theorem mw_233 : (Cond.code yX1_pass cX1_pass 5 (some .int)) ∈ cwL := cwi3 (List.mem_of_getElem? (i := 53) rfl)
theorem mw_234 : (Cond.methodLink RX1 103 yX1_produceEverywhere) ∈ cwL := cwi3 (List.mem_of_getElem? (i := 54) rfl)
theorem mw_235 : (Cond.instanceMethod yX1_produceEverywhere) ∈ cwL := cwi3 (List.mem_of_getElem? (i := 55) rfl)
theorem mw_236 : (Cond.code yX1_produceEverywhere cX1_produceEverywhere 3 none) ∈ cwL := cwi3 (List.mem_of_getElem? (i := 56) rfl)
theorem mw_237 : (Cond.methodLink RX1 145 yX1_produce) ∈ cwL := cwi3 (List.mem_of_getElem? (i := 57) rfl)
theorem mw_238 : (Cond.instanceMethod yX1_produce) ∈ cwL := cwi3 (List.mem_of_getElem? (i := 58) rfl)
theorem mw_239 : (Cond.code yX1_produce cX1_produce 7 none) ∈ cwL := cwi3 (List.mem_of_getElem? (i := 59) rfl)
theorem mw_240 : (Cond.methodLink RX1 149 Lib.Math.min.name) ∈ cwL := cwi4 (List.mem_of_getElem? (i := 0) rfl)
theorem mw_241 : (Cond.static Lib.Math.min.name) ∈ cwL := cwi4 (List.mem_of_getElem? (i := 1) rfl)
theorem mw_242 : (Cond.code Lib.Math.min.name Lib.Math.min.code 2 (some .int)) ∈ cwL := cwi4 (List.mem_of_getElem? (i := 2) rfl)
theorem mw_243 : (Cond.methodLink RX1 154 yX0_putBehind) ∈ cwL := cwi4 (List.mem_of_getElem? (i := 3) rfl)
theorem mw_244 : (Cond.instanceMethod yX0_putBehind) ∈ cwL := cwi4 (List.mem_of_getElem? (i := 4) rfl)
theorem mw_245 : (Cond.selects RX0 yX0_putBehind yX0_putBehind) ∈ cwL := cwi4 (List.mem_of_getElem? (i := 5) rfl)
theorem mw_246 : (Cond.code yX0_putBehind cX0_putBehind 4 none) ∈ cwL := cwi4 (List.mem_of_getElem? (i := 6) rfl)
theorem mw_247 : (Cond.methodLink RX0 28 yX0_lastIs) ∈ cwL := cwi4 (List.mem_of_getElem? (i := 7) rfl)
theorem mw_248 : (Cond.instanceMethod yX0_lastIs) ∈ cwL := cwi4 (List.mem_of_getElem? (i := 8) rfl)
theorem mw_249 : (Cond.code yX0_lastIs cX0_lastIs 4 (some .boolean)) ∈ cwL := cwi4 (List.mem_of_getElem? (i := 9) rfl)
theorem mw_250 : (Cond.methodLink RL 81 yL_load) ∈ cwL := cwi4 (List.mem_of_getElem? (i := 10) rfl)
theorem mw_251 : (Cond.static yL_load) ∈ cwL := cwi4 (List.mem_of_getElem? (i := 11) rfl)
theorem mw_252 : (Cond.codeWith yL_load cL_load 6 (some .int) [(0, 12, 15, 13), (0, 12, 19, 15)]) ∈ cwL := cwi4 (List.mem_of_getElem? (i := 12) rfl)
theorem mw_253 : (Cond.methodLink RL 34 yX1_load) ∈ cwL := cwi4 (List.mem_of_getElem? (i := 13) rfl)
theorem mw_254 : (Cond.instanceMethod yX1_load) ∈ cwL := cwi4 (List.mem_of_getElem? (i := 14) rfl)
theorem mw_255 : (Cond.selects RX1 yX1_load yX1_load) ∈ cwL := cwi4 (List.mem_of_getElem? (i := 15) rfl)
theorem mw_256 : (Cond.code yX1_load cX1_load 5 (some .int)) ∈ cwL := cwi4 (List.mem_of_getElem? (i := 16) rfl)
theorem mw_257 : (Cond.methodLink RX1 106 yX1_checkNotBelowZero) ∈ cwL := cwi4 (List.mem_of_getElem? (i := 17) rfl)
theorem mw_258 : (Cond.static yX1_checkNotBelowZero) ∈ cwL := cwi4 (List.mem_of_getElem? (i := 18) rfl)
theorem mw_259 : (Cond.code yX1_checkNotBelowZero cX1_checkNotBelowZero 1 none) ∈ cwL := cwi4 (List.mem_of_getElem? (i := 19) rfl)
theorem mw_260 : (Cond.methodLink RX1 109 yX0_moveTo) ∈ cwL := cwi4 (List.mem_of_getElem? (i := 20) rfl)
theorem mw_261 : (Cond.instanceMethod yX0_moveTo) ∈ cwL := cwi4 (List.mem_of_getElem? (i := 21) rfl)
theorem mw_262 : (Cond.selects RX0 yX0_moveTo yX0_moveTo) ∈ cwL := cwi4 (List.mem_of_getElem? (i := 22) rfl)
theorem mw_263 : (Cond.code yX0_moveTo cX0_moveTo 8 (some .int)) ∈ cwL := cwi4 (List.mem_of_getElem? (i := 23) rfl)
theorem mw_264 : (Cond.methodLink RX0 35 Lib.Math.min.name) ∈ cwL := cwi4 (List.mem_of_getElem? (i := 24) rfl)
theorem mw_265 : (Cond.methodLink RX0 41 yX0_putBehind) ∈ cwL := cwi4 (List.mem_of_getElem? (i := 25) rfl)
theorem mw_266 : (Cond.methodLink RX0 45 yX0_takeFromFirst) ∈ cwL := cwi4 (List.mem_of_getElem? (i := 26) rfl)
theorem mw_267 : (Cond.instanceMethod yX0_takeFromFirst) ∈ cwL := cwi4 (List.mem_of_getElem? (i := 27) rfl)
theorem mw_268 : (Cond.selects RX0 yX0_takeFromFirst yX0_takeFromFirst) ∈ cwL := cwi4 (List.mem_of_getElem? (i := 28) rfl)
theorem mw_269 : (Cond.code yX0_takeFromFirst cX0_takeFromFirst 2 none) ∈ cwL := cwi4 (List.mem_of_getElem? (i := 29) rfl)
theorem mw_270 : (Cond.methodLink RX0 32 yX0_dropFirst) ∈ cwL := cwi4 (List.mem_of_getElem? (i := 30) rfl)
theorem mw_271 : (Cond.instanceMethod yX0_dropFirst) ∈ cwL := cwi4 (List.mem_of_getElem? (i := 31) rfl)
theorem mw_272 : (Cond.code yX0_dropFirst cX0_dropFirst 2 none) ∈ cwL := cwi4 (List.mem_of_getElem? (i := 32) rfl)
theorem mw_273 : (Cond.methodLink RL 85 yL_unload) ∈ cwL := cwi4 (List.mem_of_getElem? (i := 33) rfl)
theorem mw_274 : (Cond.static yL_unload) ∈ cwL := cwi4 (List.mem_of_getElem? (i := 34) rfl)
theorem mw_275 : (Cond.codeWith yL_unload cL_unload 6 (some .int) [(0, 12, 15, 13), (0, 12, 19, 15)]) ∈ cwL := cwi4 (List.mem_of_getElem? (i := 35) rfl)
theorem mw_276 : (Cond.methodLink RL 38 yX1_unload) ∈ cwL := cwi4 (List.mem_of_getElem? (i := 36) rfl)
theorem mw_277 : (Cond.instanceMethod yX1_unload) ∈ cwL := cwi4 (List.mem_of_getElem? (i := 37) rfl)
theorem mw_278 : (Cond.selects RX1 yX1_unload yX1_unload) ∈ cwL := cwi4 (List.mem_of_getElem? (i := 38) rfl)
theorem mw_279 : (Cond.code yX1_unload cX1_unload 5 (some .int)) ∈ cwL := cwi4 (List.mem_of_getElem? (i := 39) rfl)
theorem mw_280 : (Cond.methodLink RX1 113 yX1_deliverFrom) ∈ cwL := cwi4 (List.mem_of_getElem? (i := 40) rfl)
theorem mw_281 : (Cond.instanceMethod yX1_deliverFrom) ∈ cwL := cwi4 (List.mem_of_getElem? (i := 41) rfl)
theorem mw_282 : (Cond.code yX1_deliverFrom cX1_deliverFrom 9 (some .int)) ∈ cwL := cwi4 (List.mem_of_getElem? (i := 42) rfl)
theorem mw_283 : (Cond.methodLink RX1 157 yX1_payOfOne) ∈ cwL := cwi4 (List.mem_of_getElem? (i := 43) rfl)
theorem mw_284 : (Cond.instanceMethod yX1_payOfOne) ∈ cwL := cwi4 (List.mem_of_getElem? (i := 44) rfl)
theorem mw_285 : (Cond.code yX1_payOfOne cX1_payOfOne 7 (some .int)) ∈ cwL := cwi4 (List.mem_of_getElem? (i := 45) rfl)
theorem mw_286 : (Cond.methodLink RX1 167 Lib.Math.abs.name) ∈ cwL := cwi4 (List.mem_of_getElem? (i := 46) rfl)
theorem mw_287 : (Cond.static Lib.Math.abs.name) ∈ cwL := cwi4 (List.mem_of_getElem? (i := 47) rfl)
theorem mw_288 : (Cond.code Lib.Math.abs.name Lib.Math.abs.code 1 (some .int)) ∈ cwL := cwi4 (List.mem_of_getElem? (i := 48) rfl)
theorem mw_289 : (Cond.methodLink RX1 170 Lib.Math.max.name) ∈ cwL := cwi4 (List.mem_of_getElem? (i := 49) rfl)
theorem mw_290 : (Cond.static Lib.Math.max.name) ∈ cwL := cwi4 (List.mem_of_getElem? (i := 50) rfl)
theorem mw_291 : (Cond.code Lib.Math.max.name Lib.Math.max.code 2 (some .int)) ∈ cwL := cwi4 (List.mem_of_getElem? (i := 51) rfl)
theorem mw_292 : (Cond.methodLink RX1 161 yX1_earn) ∈ cwL := cwi4 (List.mem_of_getElem? (i := 52) rfl)
theorem mw_293 : (Cond.instanceMethod yX1_earn) ∈ cwL := cwi4 (List.mem_of_getElem? (i := 53) rfl)
theorem mw_294 : (Cond.code yX1_earn cX1_earn 4 none) ∈ cwL := cwi4 (List.mem_of_getElem? (i := 54) rfl)
theorem mw_295 : (Cond.methodLink RX1 164 yX0_takeFromFirst) ∈ cwL := cwi4 (List.mem_of_getElem? (i := 55) rfl)
theorem mw_296 : (Cond.methodLink RL 88 yL_pour) ∈ cwL := cwi4 (List.mem_of_getElem? (i := 56) rfl)
theorem mw_297 : (Cond.static yL_pour) ∈ cwL := cwi4 (List.mem_of_getElem? (i := 57) rfl)
theorem mw_298 : (Cond.codeWith yL_pour cL_pour 4 (some .int) [(0, 6, 9, 13), (0, 6, 12, 15)]) ∈ cwL := cwi4 (List.mem_of_getElem? (i := 58) rfl)
theorem mw_299 : (Cond.methodLink RL 41 yX1_pour) ∈ cwL := cwi4 (List.mem_of_getElem? (i := 59) rfl)
theorem mw_300 : (Cond.instanceMethod yX1_pour) ∈ cwL := cwi5 (List.mem_of_getElem? (i := 0) rfl)
theorem mw_301 : (Cond.selects RX1 yX1_pour yX1_pour) ∈ cwL := cwi5 (List.mem_of_getElem? (i := 1) rfl)
theorem mw_302 : (Cond.code yX1_pour cX1_pour 4 none) ∈ cwL := cwi5 (List.mem_of_getElem? (i := 2) rfl)
theorem mw_303 : (Cond.methodLink RX1 117 yX1_checkFellows) ∈ cwL := cwi5 (List.mem_of_getElem? (i := 3) rfl)
theorem mw_304 : (Cond.instanceMethod yX1_checkFellows) ∈ cwL := cwi5 (List.mem_of_getElem? (i := 4) rfl)
theorem mw_305 : (Cond.code yX1_checkFellows cX1_checkFellows 3 none) ∈ cwL := cwi5 (List.mem_of_getElem? (i := 5) rfl)
theorem mw_306 : (Cond.methodLink RL 91 yL_part) ∈ cwL := cwi5 (List.mem_of_getElem? (i := 6) rfl)
theorem mw_307 : (Cond.static yL_part) ∈ cwL := cwi5 (List.mem_of_getElem? (i := 7) rfl)
theorem mw_308 : (Cond.codeWith yL_part cL_part 5 (some .int) [(0, 7, 10, 13), (0, 7, 14, 15)]) ∈ cwL := cwi5 (List.mem_of_getElem? (i := 8) rfl)
theorem mw_309 : (Cond.methodLink RL 44 yX1_part) ∈ cwL := cwi5 (List.mem_of_getElem? (i := 9) rfl)
theorem mw_310 : (Cond.instanceMethod yX1_part) ∈ cwL := cwi5 (List.mem_of_getElem? (i := 10) rfl)
theorem mw_311 : (Cond.selects RX1 yX1_part yX1_part) ∈ cwL := cwi5 (List.mem_of_getElem? (i := 11) rfl)
theorem mw_312 : (Cond.code yX1_part cX1_part 4 none) ∈ cwL := cwi5 (List.mem_of_getElem? (i := 12) rfl)
theorem mw_313 : (Cond.methodLink RX1 124 yX0_moveAllBehind) ∈ cwL := cwi5 (List.mem_of_getElem? (i := 13) rfl)
theorem mw_314 : (Cond.instanceMethod yX0_moveAllBehind) ∈ cwL := cwi5 (List.mem_of_getElem? (i := 14) rfl)
theorem mw_315 : (Cond.selects RX0 yX0_moveAllBehind yX0_moveAllBehind) ∈ cwL := cwi5 (List.mem_of_getElem? (i := 15) rfl)
theorem mw_316 : (Cond.code yX0_moveAllBehind cX0_moveAllBehind 8 none) ∈ cwL := cwi5 (List.mem_of_getElem? (i := 16) rfl)
theorem mw_317 : (Cond.methodLink RL 94 yL_dump) ∈ cwL := cwi5 (List.mem_of_getElem? (i := 17) rfl)
theorem mw_318 : (Cond.static yL_dump) ∈ cwL := cwi5 (List.mem_of_getElem? (i := 18) rfl)
theorem mw_319 : (Cond.codeWith yL_dump cL_dump 4 (some .int) [(0, 9, 12, 13)]) ∈ cwL := cwi5 (List.mem_of_getElem? (i := 19) rfl)
theorem mw_320 : (Cond.methodLink RL 47 yX1_dump) ∈ cwL := cwi5 (List.mem_of_getElem? (i := 20) rfl)
theorem mw_321 : (Cond.instanceMethod yX1_dump) ∈ cwL := cwi5 (List.mem_of_getElem? (i := 21) rfl)
theorem mw_322 : (Cond.selects RX1 yX1_dump yX1_dump) ∈ cwL := cwi5 (List.mem_of_getElem? (i := 22) rfl)
theorem mw_323 : (Cond.code yX1_dump cX1_dump 3 (some .int)) ∈ cwL := cwi5 (List.mem_of_getElem? (i := 23) rfl)
theorem mw_324 : (Cond.methodLink RX1 128 yX0_clear) ∈ cwL := cwi5 (List.mem_of_getElem? (i := 24) rfl)
theorem mw_325 : (Cond.instanceMethod yX0_clear) ∈ cwL := cwi5 (List.mem_of_getElem? (i := 25) rfl)
theorem mw_326 : (Cond.selects RX0 yX0_clear yX0_clear) ∈ cwL := cwi5 (List.mem_of_getElem? (i := 26) rfl)
theorem mw_327 : (Cond.code yX0_clear cX0_clear 1 none) ∈ cwL := cwi5 (List.mem_of_getElem? (i := 27) rfl)
theorem mw_328 : (Cond.classLink RL 51 RX2) ∈ cwL := cwi5 (List.mem_of_getElem? (i := 28) rfl)
theorem mw_329 : (Cond.instantiable RX2 18) ∈ cwL := cwi5 (List.mem_of_getElem? (i := 29) rfl)
theorem mw_330 : (Cond.methodLink RL 53 yX2_init) ∈ cwL := cwi5 (List.mem_of_getElem? (i := 30) rfl)
theorem mw_331 : (Cond.instanceMethod yX2_init) ∈ cwL := cwi5 (List.mem_of_getElem? (i := 31) rfl)
theorem mw_332 : (Cond.code yX2_init cX2_init 2 none) ∈ cwL := cwi5 (List.mem_of_getElem? (i := 32) rfl)
theorem mw_333 : (Cond.methodLink RX2 1 objectInit) ∈ cwL := cwi5 (List.mem_of_getElem? (i := 33) rfl)
theorem mw_334 : (Cond.constant RX2 38 (49000)) ∈ cwL := cwi5 (List.mem_of_getElem? (i := 34) rfl)
theorem mw_335 : (Cond.fieldLink RX2 54 RX2 "thrown" "I") ∈ cwL := cwi5 (List.mem_of_getElem? (i := 35) rfl)
theorem mw_336 : (Cond.fieldLink RX2 74 RX2 "time" "I") ∈ cwL := cwi5 (List.mem_of_getElem? (i := 36) rfl)
theorem mw_337 : (Cond.fieldLink RX2 7 RX2 "money" "I") ∈ cwL := cwi5 (List.mem_of_getElem? (i := 37) rfl)
theorem mw_338 : (Cond.fieldLink RX2 91 RX2 "earned" "I") ∈ cwL := cwi5 (List.mem_of_getElem? (i := 38) rfl)
theorem mw_339 : (Cond.fieldLink RX2 98 RX2 "spent" "I") ∈ cwL := cwi5 (List.mem_of_getElem? (i := 39) rfl)
theorem mw_340 : (Cond.fieldLink RX2 13 RX2 "columns" "[I") ∈ cwL := cwi5 (List.mem_of_getElem? (i := 40) rfl)
theorem mw_341 : (Cond.fieldLink RX2 17 RX2 "lines" "[I") ∈ cwL := cwi5 (List.mem_of_getElem? (i := 41) rfl)
theorem mw_342 : (Cond.fieldLink RX2 20 RX2 "accepts" "[I") ∈ cwL := cwi5 (List.mem_of_getElem? (i := 42) rfl)
theorem mw_343 : (Cond.fieldLink RX2 23 RX2 "rates" "[I") ∈ cwL := cwi5 (List.mem_of_getElem? (i := 43) rfl)
theorem mw_344 : (Cond.fieldLink RX2 26 RX2 "made" "[I") ∈ cwL := cwi5 (List.mem_of_getElem? (i := 44) rfl)
theorem mw_345 : (Cond.fieldLink RX2 29 RX2 "wagonKind" "[I") ∈ cwL := cwi5 (List.mem_of_getElem? (i := 45) rfl)
theorem mw_346 : (Cond.fieldLink RX2 32 RX2 "wagonRoom" "[I") ∈ cwL := cwi5 (List.mem_of_getElem? (i := 46) rfl)
theorem mw_347 : (Cond.fieldLink RX2 35 RX2 "size" "[I") ∈ cwL := cwi5 (List.mem_of_getElem? (i := 47) rfl)
theorem mw_348 : (Cond.fieldLink RX2 39 RX2 "origins" "[I") ∈ cwL := cwi5 (List.mem_of_getElem? (i := 48) rfl)
theorem mw_349 : (Cond.fieldLink RX2 42 RX2 "born" "[I") ∈ cwL := cwi5 (List.mem_of_getElem? (i := 49) rfl)
theorem mw_350 : (Cond.fieldLink RX2 45 RX2 "produced" "[I") ∈ cwL := cwi5 (List.mem_of_getElem? (i := 50) rfl)
theorem mw_351 : (Cond.fieldLink RX2 48 RX2 "delivered" "[I") ∈ cwL := cwi5 (List.mem_of_getElem? (i := 51) rfl)
theorem mw_352 : (Cond.fieldLink RX2 51 RX2 "dumped" "[I") ∈ cwL := cwi5 (List.mem_of_getElem? (i := 52) rfl)
theorem mw_353 : (Cond.lays RX2 RX2 "thrown" "I") ∈ cwL := cwi5 (List.mem_of_getElem? (i := 53) rfl)
theorem mw_354 : (Cond.lays RX2 RX2 "time" "I") ∈ cwL := cwi5 (List.mem_of_getElem? (i := 54) rfl)
theorem mw_355 : (Cond.lays RX2 RX2 "money" "I") ∈ cwL := cwi5 (List.mem_of_getElem? (i := 55) rfl)
theorem mw_356 : (Cond.lays RX2 RX2 "earned" "I") ∈ cwL := cwi5 (List.mem_of_getElem? (i := 56) rfl)
theorem mw_357 : (Cond.lays RX2 RX2 "spent" "I") ∈ cwL := cwi5 (List.mem_of_getElem? (i := 57) rfl)
theorem mw_358 : (Cond.laysFinal RX2 RX2 "columns" "[I") ∈ cwL := cwi5 (List.mem_of_getElem? (i := 58) rfl)
theorem mw_359 : (Cond.laysFinal RX2 RX2 "lines" "[I") ∈ cwL := cwi5 (List.mem_of_getElem? (i := 59) rfl)
theorem mw_360 : (Cond.laysFinal RX2 RX2 "accepts" "[I") ∈ cwL := cwi6 (List.mem_of_getElem? (i := 0) rfl)
theorem mw_361 : (Cond.laysFinal RX2 RX2 "rates" "[I") ∈ cwL := cwi6 (List.mem_of_getElem? (i := 1) rfl)
theorem mw_362 : (Cond.laysFinal RX2 RX2 "made" "[I") ∈ cwL := cwi6 (List.mem_of_getElem? (i := 2) rfl)
theorem mw_363 : (Cond.laysFinal RX2 RX2 "wagonKind" "[I") ∈ cwL := cwi6 (List.mem_of_getElem? (i := 3) rfl)
theorem mw_364 : (Cond.laysFinal RX2 RX2 "wagonRoom" "[I") ∈ cwL := cwi6 (List.mem_of_getElem? (i := 4) rfl)
theorem mw_365 : (Cond.laysFinal RX2 RX2 "size" "[I") ∈ cwL := cwi6 (List.mem_of_getElem? (i := 5) rfl)
theorem mw_366 : (Cond.laysFinal RX2 RX2 "origins" "[I") ∈ cwL := cwi6 (List.mem_of_getElem? (i := 6) rfl)
theorem mw_367 : (Cond.laysFinal RX2 RX2 "born" "[I") ∈ cwL := cwi6 (List.mem_of_getElem? (i := 7) rfl)
theorem mw_368 : (Cond.laysFinal RX2 RX2 "produced" "[I") ∈ cwL := cwi6 (List.mem_of_getElem? (i := 8) rfl)
theorem mw_369 : (Cond.laysFinal RX2 RX2 "delivered" "[I") ∈ cwL := cwi6 (List.mem_of_getElem? (i := 9) rfl)
theorem mw_370 : (Cond.laysFinal RX2 RX2 "dumped" "[I") ∈ cwL := cwi6 (List.mem_of_getElem? (i := 10) rfl)
theorem mw_371 : (Cond.superclass RX2 "java/lang/Object") ∈ cwL := cwi6 (List.mem_of_getElem? (i := 11) rfl)
theorem mw_372 : (Cond.methodLink RL 60 yX2_thrown) ∈ cwL := cwi6 (List.mem_of_getElem? (i := 12) rfl)
theorem mw_373 : (Cond.instanceMethod yX2_thrown) ∈ cwL := cwi6 (List.mem_of_getElem? (i := 13) rfl)
theorem mw_374 : (Cond.selects RX2 yX2_thrown yX2_thrown) ∈ cwL := cwi6 (List.mem_of_getElem? (i := 14) rfl)
theorem mw_375 : (Cond.code yX2_thrown cX2_thrown 1 (some .int)) ∈ cwL := cwi6 (List.mem_of_getElem? (i := 15) rfl)
theorem mw_376 : (Cond.methodLink RL 59 yX2_place) ∈ cwL := cwi6 (List.mem_of_getElem? (i := 16) rfl)
theorem mw_377 : (Cond.instanceMethod yX2_place) ∈ cwL := cwi6 (List.mem_of_getElem? (i := 17) rfl)
theorem mw_378 : (Cond.selects RX2 yX2_place yX2_place) ∈ cwL := cwi6 (List.mem_of_getElem? (i := 18) rfl)
theorem mw_379 : (Cond.code yX2_place cX2_place 4 none) ∈ cwL := cwi6 (List.mem_of_getElem? (i := 19) rfl)
theorem mw_380 : (Cond.methodLink RX2 77 yX2_in) ∈ cwL := cwi6 (List.mem_of_getElem? (i := 20) rfl)
theorem mw_381 : (Cond.static yX2_in) ∈ cwL := cwi6 (List.mem_of_getElem? (i := 21) rfl)
theorem mw_382 : (Cond.code yX2_in cX2_in 2 (some .boolean)) ∈ cwL := cwi6 (List.mem_of_getElem? (i := 22) rfl)
theorem mw_383 : (Cond.methodLink RL 66 yX2_rate) ∈ cwL := cwi6 (List.mem_of_getElem? (i := 23) rfl)
theorem mw_384 : (Cond.instanceMethod yX2_rate) ∈ cwL := cwi6 (List.mem_of_getElem? (i := 24) rfl)
theorem mw_385 : (Cond.selects RX2 yX2_rate yX2_rate) ∈ cwL := cwi6 (List.mem_of_getElem? (i := 25) rfl)
theorem mw_386 : (Cond.code yX2_rate cX2_rate 4 none) ∈ cwL := cwi6 (List.mem_of_getElem? (i := 26) rfl)
theorem mw_387 : (Cond.methodLink RL 70 yX2_accept) ∈ cwL := cwi6 (List.mem_of_getElem? (i := 27) rfl)
theorem mw_388 : (Cond.instanceMethod yX2_accept) ∈ cwL := cwi6 (List.mem_of_getElem? (i := 28) rfl)
theorem mw_389 : (Cond.selects RX2 yX2_accept yX2_accept) ∈ cwL := cwi6 (List.mem_of_getElem? (i := 29) rfl)
theorem mw_390 : (Cond.code yX2_accept cX2_accept 3 none) ∈ cwL := cwi6 (List.mem_of_getElem? (i := 30) rfl)
theorem mw_391 : (Cond.methodLink RL 73 yX2_make) ∈ cwL := cwi6 (List.mem_of_getElem? (i := 31) rfl)
theorem mw_392 : (Cond.instanceMethod yX2_make) ∈ cwL := cwi6 (List.mem_of_getElem? (i := 32) rfl)
theorem mw_393 : (Cond.selects RX2 yX2_make yX2_make) ∈ cwL := cwi6 (List.mem_of_getElem? (i := 33) rfl)
theorem mw_394 : (Cond.code yX2_make cX2_make 4 none) ∈ cwL := cwi6 (List.mem_of_getElem? (i := 34) rfl)
theorem mw_395 : (Cond.methodLink RL 76 yX2_wagon) ∈ cwL := cwi6 (List.mem_of_getElem? (i := 35) rfl)
theorem mw_396 : (Cond.instanceMethod yX2_wagon) ∈ cwL := cwi6 (List.mem_of_getElem? (i := 36) rfl)
theorem mw_397 : (Cond.selects RX2 yX2_wagon yX2_wagon) ∈ cwL := cwi6 (List.mem_of_getElem? (i := 37) rfl)
theorem mw_398 : (Cond.code yX2_wagon cX2_wagon 4 none) ∈ cwL := cwi6 (List.mem_of_getElem? (i := 38) rfl)
theorem mw_399 : (Cond.methodLink RL 80 yX2_pass) ∈ cwL := cwi6 (List.mem_of_getElem? (i := 39) rfl)
theorem mw_400 : (Cond.instanceMethod yX2_pass) ∈ cwL := cwi6 (List.mem_of_getElem? (i := 40) rfl)
theorem mw_401 : (Cond.selects RX2 yX2_pass yX2_pass) ∈ cwL := cwi6 (List.mem_of_getElem? (i := 41) rfl)
theorem mw_402 : (Cond.code yX2_pass cX2_pass 5 (some .int)) ∈ cwL := cwi6 (List.mem_of_getElem? (i := 42) rfl)
theorem mw_403 : (Cond.constant RX2 73 (2000000000)) ∈ cwL := cwi6 (List.mem_of_getElem? (i := 43) rfl)
theorem mw_404 : (Cond.methodLink RX2 80 yX2_produce) ∈ cwL := cwi6 (List.mem_of_getElem? (i := 44) rfl)
theorem mw_405 : (Cond.instanceMethod yX2_produce) ∈ cwL := cwi6 (List.mem_of_getElem? (i := 45) rfl)
theorem mw_406 : (Cond.code yX2_produce cX2_produce 3 none) ∈ cwL := cwi6 (List.mem_of_getElem? (i := 46) rfl)
theorem mw_407 : (Cond.methodLink RX2 69 yX2_put) ∈ cwL := cwi6 (List.mem_of_getElem? (i := 47) rfl)
theorem mw_408 : (Cond.instanceMethod yX2_put) ∈ cwL := cwi6 (List.mem_of_getElem? (i := 48) rfl)
theorem mw_409 : (Cond.code yX2_put cX2_put 6 none) ∈ cwL := cwi6 (List.mem_of_getElem? (i := 49) rfl)
theorem mw_410 : (Cond.methodLink RX2 61 yX2_packets) ∈ cwL := cwi6 (List.mem_of_getElem? (i := 50) rfl)
theorem mw_411 : (Cond.instanceMethod yX2_packets) ∈ cwL := cwi6 (List.mem_of_getElem? (i := 51) rfl)
theorem mw_412 : (Cond.code yX2_packets cX2_packets 4 (some .int)) ∈ cwL := cwi6 (List.mem_of_getElem? (i := 52) rfl)
theorem mw_413 : (Cond.methodLink RX2 57 yX2_isFirst) ∈ cwL := cwi6 (List.mem_of_getElem? (i := 53) rfl)
theorem mw_414 : (Cond.instanceMethod yX2_isFirst) ∈ cwL := cwi6 (List.mem_of_getElem? (i := 54) rfl)
theorem mw_415 : (Cond.code yX2_isFirst cX2_isFirst 3 (some .boolean)) ∈ cwL := cwi6 (List.mem_of_getElem? (i := 55) rfl)
theorem mw_416 : (Cond.methodLink RL 84 yX2_load) ∈ cwL := cwi6 (List.mem_of_getElem? (i := 56) rfl)
theorem mw_417 : (Cond.instanceMethod yX2_load) ∈ cwL := cwi6 (List.mem_of_getElem? (i := 57) rfl)
theorem mw_418 : (Cond.selects RX2 yX2_load yX2_load) ∈ cwL := cwi6 (List.mem_of_getElem? (i := 58) rfl)
theorem mw_419 : (Cond.code yX2_load cX2_load 6 (some .int)) ∈ cwL := cwi6 (List.mem_of_getElem? (i := 59) rfl)
theorem mw_420 : (Cond.methodLink RX2 84 yX2_move) ∈ cwL := cwi7 (List.mem_of_getElem? (i := 0) rfl)
theorem mw_421 : (Cond.instanceMethod yX2_move) ∈ cwL := cwi7 (List.mem_of_getElem? (i := 1) rfl)
theorem mw_422 : (Cond.code yX2_move cX2_move 5 none) ∈ cwL := cwi7 (List.mem_of_getElem? (i := 2) rfl)
theorem mw_423 : (Cond.methodLink RX2 65 yX2_drop) ∈ cwL := cwi7 (List.mem_of_getElem? (i := 3) rfl)
theorem mw_424 : (Cond.instanceMethod yX2_drop) ∈ cwL := cwi7 (List.mem_of_getElem? (i := 4) rfl)
theorem mw_425 : (Cond.code yX2_drop cX2_drop 3 none) ∈ cwL := cwi7 (List.mem_of_getElem? (i := 5) rfl)
theorem mw_426 : (Cond.methodLink RL 87 yX2_unload) ∈ cwL := cwi7 (List.mem_of_getElem? (i := 6) rfl)
theorem mw_427 : (Cond.instanceMethod yX2_unload) ∈ cwL := cwi7 (List.mem_of_getElem? (i := 7) rfl)
theorem mw_428 : (Cond.selects RX2 yX2_unload yX2_unload) ∈ cwL := cwi7 (List.mem_of_getElem? (i := 8) rfl)
theorem mw_429 : (Cond.code yX2_unload cX2_unload 9 (some .int)) ∈ cwL := cwi7 (List.mem_of_getElem? (i := 9) rfl)
theorem mw_430 : (Cond.methodLink RX2 94 yX2_pay) ∈ cwL := cwi7 (List.mem_of_getElem? (i := 10) rfl)
theorem mw_431 : (Cond.instanceMethod yX2_pay) ∈ cwL := cwi7 (List.mem_of_getElem? (i := 11) rfl)
theorem mw_432 : (Cond.code yX2_pay cX2_pay 6 none) ∈ cwL := cwi7 (List.mem_of_getElem? (i := 12) rfl)
theorem mw_433 : (Cond.methodLink RX2 87 yX2_apart) ∈ cwL := cwi7 (List.mem_of_getElem? (i := 13) rfl)
theorem mw_434 : (Cond.static yX2_apart) ∈ cwL := cwi7 (List.mem_of_getElem? (i := 14) rfl)
theorem mw_435 : (Cond.code yX2_apart cX2_apart 2 (some .int)) ∈ cwL := cwi7 (List.mem_of_getElem? (i := 15) rfl)
theorem mw_436 : (Cond.methodLink RL 90 yX2_pour) ∈ cwL := cwi7 (List.mem_of_getElem? (i := 16) rfl)
theorem mw_437 : (Cond.instanceMethod yX2_pour) ∈ cwL := cwi7 (List.mem_of_getElem? (i := 17) rfl)
theorem mw_438 : (Cond.selects RX2 yX2_pour yX2_pour) ∈ cwL := cwi7 (List.mem_of_getElem? (i := 18) rfl)
theorem mw_439 : (Cond.code yX2_pour cX2_pour 4 none) ∈ cwL := cwi7 (List.mem_of_getElem? (i := 19) rfl)
theorem mw_440 : (Cond.methodLink RL 93 yX2_part) ∈ cwL := cwi7 (List.mem_of_getElem? (i := 20) rfl)
theorem mw_441 : (Cond.instanceMethod yX2_part) ∈ cwL := cwi7 (List.mem_of_getElem? (i := 21) rfl)
theorem mw_442 : (Cond.selects RX2 yX2_part yX2_part) ∈ cwL := cwi7 (List.mem_of_getElem? (i := 22) rfl)
theorem mw_443 : (Cond.code yX2_part cX2_part 7 none) ∈ cwL := cwi7 (List.mem_of_getElem? (i := 23) rfl)
theorem mw_444 : (Cond.constant RX2 97 (48000)) ∈ cwL := cwi7 (List.mem_of_getElem? (i := 24) rfl)
theorem mw_445 : (Cond.methodLink RL 96 yX2_dump) ∈ cwL := cwi7 (List.mem_of_getElem? (i := 25) rfl)
theorem mw_446 : (Cond.instanceMethod yX2_dump) ∈ cwL := cwi7 (List.mem_of_getElem? (i := 26) rfl)
theorem mw_447 : (Cond.selects RX2 yX2_dump yX2_dump) ∈ cwL := cwi7 (List.mem_of_getElem? (i := 27) rfl)
theorem mw_448 : (Cond.code yX2_dump cX2_dump 3 (some .int)) ∈ cwL := cwi7 (List.mem_of_getElem? (i := 28) rfl)
theorem mw_449 : (Cond.methodLink RL 101 yX2_spend) ∈ cwL := cwi7 (List.mem_of_getElem? (i := 29) rfl)
theorem mw_450 : (Cond.instanceMethod yX2_spend) ∈ cwL := cwi7 (List.mem_of_getElem? (i := 30) rfl)
theorem mw_451 : (Cond.selects RX2 yX2_spend yX2_spend) ∈ cwL := cwi7 (List.mem_of_getElem? (i := 31) rfl)
theorem mw_452 : (Cond.code yX2_spend cX2_spend 2 (some .boolean)) ∈ cwL := cwi7 (List.mem_of_getElem? (i := 32) rfl)
theorem mw_453 : (Cond.methodLink RL 106 yX2_packet) ∈ cwL := cwi7 (List.mem_of_getElem? (i := 33) rfl)
theorem mw_454 : (Cond.instanceMethod yX2_packet) ∈ cwL := cwi7 (List.mem_of_getElem? (i := 34) rfl)
theorem mw_455 : (Cond.selects RX2 yX2_packet yX2_packet) ∈ cwL := cwi7 (List.mem_of_getElem? (i := 35) rfl)
theorem mw_456 : (Cond.code yX2_packet cX2_packet 9 (some .int)) ∈ cwL := cwi7 (List.mem_of_getElem? (i := 36) rfl)
theorem mw_457 : (Cond.methodLink RX2 101 yX2_rowOf) ∈ cwL := cwi7 (List.mem_of_getElem? (i := 37) rfl)
theorem mw_458 : (Cond.instanceMethod yX2_rowOf) ∈ cwL := cwi7 (List.mem_of_getElem? (i := 38) rfl)
theorem mw_459 : (Cond.code yX2_rowOf cX2_rowOf 3 (some .int)) ∈ cwL := cwi7 (List.mem_of_getElem? (i := 39) rfl)
theorem mw_460 : (Cond.methodLink RL 111 yX2_units) ∈ cwL := cwi7 (List.mem_of_getElem? (i := 40) rfl)
theorem mw_461 : (Cond.instanceMethod yX2_units) ∈ cwL := cwi7 (List.mem_of_getElem? (i := 41) rfl)
theorem mw_462 : (Cond.selects RX2 yX2_units yX2_units) ∈ cwL := cwi7 (List.mem_of_getElem? (i := 42) rfl)
theorem mw_463 : (Cond.code yX2_units cX2_units 4 (some .int)) ∈ cwL := cwi7 (List.mem_of_getElem? (i := 43) rfl)
theorem mw_464 : (Cond.methodLink RL 115 yX2_count) ∈ cwL := cwi7 (List.mem_of_getElem? (i := 44) rfl)
theorem mw_465 : (Cond.instanceMethod yX2_count) ∈ cwL := cwi7 (List.mem_of_getElem? (i := 45) rfl)
theorem mw_466 : (Cond.selects RX2 yX2_count yX2_count) ∈ cwL := cwi7 (List.mem_of_getElem? (i := 46) rfl)
theorem mw_467 : (Cond.code yX2_count cX2_count 5 (some .int)) ∈ cwL := cwi7 (List.mem_of_getElem? (i := 47) rfl)
theorem mw_468 : (Cond.methodLink RL 119 yX2_sum) ∈ cwL := cwi7 (List.mem_of_getElem? (i := 48) rfl)
theorem mw_469 : (Cond.instanceMethod yX2_sum) ∈ cwL := cwi7 (List.mem_of_getElem? (i := 49) rfl)
theorem mw_470 : (Cond.selects RX2 yX2_sum yX2_sum) ∈ cwL := cwi7 (List.mem_of_getElem? (i := 50) rfl)
theorem mw_471 : (Cond.code yX2_sum cX2_sum 2 (some .int)) ∈ cwL := cwi7 (List.mem_of_getElem? (i := 51) rfl)
theorem mw_472 : (Cond.arrayClass .long) ∈ cwL := cwi7 (List.mem_of_getElem? (i := 52) rfl)
theorem mw_473 : (Cond.sameMethod "java/lang/Throwable" "java/lang/Throwable" "fillInStackTrace" "(I)Ljava/lang/Throwable;") ∈ cwL := cwi7 (List.mem_of_getElem? (i := 53) rfl)
theorem mw_474 : (Cond.selects RX1 yX1_rowAt yX1_rowAt) ∈ cwL := cwi7 (List.mem_of_getElem? (i := 54) rfl)
theorem mw_475 : (Cond.selects RX1 yX1_unitsInStocks yX1_unitsInStocks) ∈ cwL := cwi7 (List.mem_of_getElem? (i := 55) rfl)
theorem mw_476 : (Cond.selects RX1 yX1_unitsInWagons yX1_unitsInWagons) ∈ cwL := cwi7 (List.mem_of_getElem? (i := 56) rfl)
theorem mw_477 : (Cond.selects RX1 yX1_produceEverywhere yX1_produceEverywhere) ∈ cwL := cwi7 (List.mem_of_getElem? (i := 57) rfl)
theorem mw_478 : (Cond.selects RX1 yX1_produce yX1_produce) ∈ cwL := cwi7 (List.mem_of_getElem? (i := 58) rfl)
theorem mw_479 : (Cond.selects RX0 yX0_lastIs yX0_lastIs) ∈ cwL := cwi7 (List.mem_of_getElem? (i := 59) rfl)
theorem mw_480 : (Cond.selects RX0 yX0_dropFirst yX0_dropFirst) ∈ cwL := cwi8 (List.mem_of_getElem? (i := 0) rfl)
theorem mw_481 : (Cond.selects RX1 yX1_deliverFrom yX1_deliverFrom) ∈ cwL := cwi8 (List.mem_of_getElem? (i := 1) rfl)
theorem mw_482 : (Cond.selects RX1 yX1_payOfOne yX1_payOfOne) ∈ cwL := cwi8 (List.mem_of_getElem? (i := 2) rfl)
theorem mw_483 : (Cond.selects RX1 yX1_earn yX1_earn) ∈ cwL := cwi8 (List.mem_of_getElem? (i := 3) rfl)
theorem mw_484 : (Cond.selects RX1 yX1_checkFellows yX1_checkFellows) ∈ cwL := cwi8 (List.mem_of_getElem? (i := 4) rfl)
theorem mw_485 : (Cond.selects RX2 yX2_produce yX2_produce) ∈ cwL := cwi8 (List.mem_of_getElem? (i := 5) rfl)
theorem mw_486 : (Cond.selects RX2 yX2_put yX2_put) ∈ cwL := cwi8 (List.mem_of_getElem? (i := 6) rfl)
theorem mw_487 : (Cond.selects RX2 yX2_packets yX2_packets) ∈ cwL := cwi8 (List.mem_of_getElem? (i := 7) rfl)
theorem mw_488 : (Cond.selects RX2 yX2_isFirst yX2_isFirst) ∈ cwL := cwi8 (List.mem_of_getElem? (i := 8) rfl)
theorem mw_489 : (Cond.selects RX2 yX2_move yX2_move) ∈ cwL := cwi8 (List.mem_of_getElem? (i := 9) rfl)
theorem mw_490 : (Cond.selects RX2 yX2_drop yX2_drop) ∈ cwL := cwi8 (List.mem_of_getElem? (i := 10) rfl)
theorem mw_491 : (Cond.selects RX2 yX2_pay yX2_pay) ∈ cwL := cwi8 (List.mem_of_getElem? (i := 11) rfl)
theorem mw_492 : (Cond.selects RX2 yX2_rowOf yX2_rowOf) ∈ cwL := cwi8 (List.mem_of_getElem? (i := 12) rfl)
theorem in_X0 : ∀ w ∈ u_ws RX0 TX0 5, w ∈ cwL := by decide +kernel
theorem in_X1 : ∀ w ∈ u_ws RX1 TX1 16, w ∈ cwL := by decide +kernel
theorem in_X2 : ∀ w ∈ u_ws RX2 TX2 18, w ∈ cwL := by decide +kernel
abbrev wsX1_init : List Cond := .code yX1_init cX1_init 2 none :: cwL
abbrev wsX0_init : List Cond := .code yX0_init cX0_init 1 none :: cwL
abbrev wsX1_spend : List Cond := .code yX1_spend cX1_spend 2 (some .boolean) :: cwL
abbrev wsX1_packet : List Cond := .code yX1_packet cX1_packet 6 (some .int) :: cwL
abbrev wsX1_rowAt : List Cond := .code yX1_rowAt cX1_rowAt 3 (some (.object "PacketStores$Row")) :: cwL
abbrev wsX1_isStation : List Cond := .code yX1_isStation cX1_isStation 1 (some .boolean) :: cwL
abbrev wsX1_isKind : List Cond := .code yX1_isKind cX1_isKind 1 (some .boolean) :: cwL
abbrev wsX1_stockIndex : List Cond := .code yX1_stockIndex cX1_stockIndex 2 (some .int) :: cwL
abbrev wsX0_look : List Cond := .code yX0_look cX0_look 3 (some .int) :: cwL
abbrev wsX1_units : List Cond := .code yX1_units cX1_units 4 (some .int) :: cwL
abbrev wsX0_total : List Cond := .code yX0_total cX0_total 1 (some .int) :: cwL
abbrev wsX1_count : List Cond := .code yX1_count cX1_count 3 (some .int) :: cwL
abbrev wsX1_unitsInStocks : List Cond := .code yX1_unitsInStocks cX1_unitsInStocks 4 (some .int) :: cwL
abbrev wsX1_unitsInWagons : List Cond := .code yX1_unitsInWagons cX1_unitsInWagons 4 (some .int) :: cwL
abbrev wsX1_sum : List Cond := .code yX1_sum cX1_sum 2 (some .int) :: cwL
abbrev wsL_place : List Cond := .codeWith yL_place cL_place 5 (some .int) [(0, 7, 10, 13), (0, 7, 14, 15)] :: cwL
abbrev wsX1_place : List Cond := .code yX1_place cX1_place 4 none :: cwL
abbrev wsX1_checkStation : List Cond := .code yX1_checkStation cX1_checkStation 1 none :: cwL
abbrev wsX1_checkRange : List Cond := .code yX1_checkRange cX1_checkRange 2 none :: cwL
abbrev wsL_rate : List Cond := .codeWith yL_rate cL_rate 5 (some .int) [(0, 7, 10, 13), (0, 7, 14, 15)] :: cwL
abbrev wsX1_rate : List Cond := .code yX1_rate cX1_rate 4 none :: cwL
abbrev wsX1_checkKind : List Cond := .code yX1_checkKind cX1_checkKind 1 none :: cwL
abbrev wsL_accept : List Cond := .codeWith yL_accept cL_accept 4 (some .int) [(0, 6, 9, 13), (0, 6, 12, 15)] :: cwL
abbrev wsX1_accept : List Cond := .code yX1_accept cX1_accept 3 none :: cwL
abbrev wsL_make : List Cond := .codeWith yL_make cL_make 5 (some .int) [(0, 7, 10, 13), (0, 7, 14, 15)] :: cwL
abbrev wsX1_make : List Cond := .code yX1_make cX1_make 4 none :: cwL
abbrev wsL_wagon : List Cond := .codeWith yL_wagon cL_wagon 5 (some .int) [(0, 7, 10, 13), (0, 7, 14, 15)] :: cwL
abbrev wsX1_wagon : List Cond := .code yX1_wagon cX1_wagon 5 none :: cwL
abbrev wsX1_checkWagon : List Cond := .code yX1_checkWagon cX1_checkWagon 1 none :: cwL
abbrev wsL_pass : List Cond := .codeWith yL_pass cL_pass 4 (some .int) [(0, 9, 12, 15)] :: cwL
abbrev wsX1_pass : List Cond := .code yX1_pass cX1_pass 5 (some .int) :: cwL
abbrev wsX1_produceEverywhere : List Cond := .code yX1_produceEverywhere cX1_produceEverywhere 3 none :: cwL
abbrev wsX1_produce : List Cond := .code yX1_produce cX1_produce 7 none :: cwL
abbrev wsX0_putBehind : List Cond := .code yX0_putBehind cX0_putBehind 4 none :: cwL
abbrev wsX0_lastIs : List Cond := .code yX0_lastIs cX0_lastIs 4 (some .boolean) :: cwL
abbrev wsL_load : List Cond := .codeWith yL_load cL_load 6 (some .int) [(0, 12, 15, 13), (0, 12, 19, 15)] :: cwL
abbrev wsX1_load : List Cond := .code yX1_load cX1_load 5 (some .int) :: cwL
abbrev wsX1_checkNotBelowZero : List Cond := .code yX1_checkNotBelowZero cX1_checkNotBelowZero 1 none :: cwL
abbrev wsX0_moveTo : List Cond := .code yX0_moveTo cX0_moveTo 8 (some .int) :: cwL
abbrev wsX0_takeFromFirst : List Cond := .code yX0_takeFromFirst cX0_takeFromFirst 2 none :: cwL
abbrev wsX0_dropFirst : List Cond := .code yX0_dropFirst cX0_dropFirst 2 none :: cwL
abbrev wsL_unload : List Cond := .codeWith yL_unload cL_unload 6 (some .int) [(0, 12, 15, 13), (0, 12, 19, 15)] :: cwL
abbrev wsX1_unload : List Cond := .code yX1_unload cX1_unload 5 (some .int) :: cwL
abbrev wsX1_deliverFrom : List Cond := .code yX1_deliverFrom cX1_deliverFrom 9 (some .int) :: cwL
abbrev wsX1_payOfOne : List Cond := .code yX1_payOfOne cX1_payOfOne 7 (some .int) :: cwL
abbrev wsX1_earn : List Cond := .code yX1_earn cX1_earn 4 none :: cwL
abbrev wsL_pour : List Cond := .codeWith yL_pour cL_pour 4 (some .int) [(0, 6, 9, 13), (0, 6, 12, 15)] :: cwL
abbrev wsX1_pour : List Cond := .code yX1_pour cX1_pour 4 none :: cwL
abbrev wsX1_checkFellows : List Cond := .code yX1_checkFellows cX1_checkFellows 3 none :: cwL
abbrev wsL_part : List Cond := .codeWith yL_part cL_part 5 (some .int) [(0, 7, 10, 13), (0, 7, 14, 15)] :: cwL
abbrev wsX1_part : List Cond := .code yX1_part cX1_part 4 none :: cwL
abbrev wsX0_moveAllBehind : List Cond := .code yX0_moveAllBehind cX0_moveAllBehind 8 none :: cwL
abbrev wsL_dump : List Cond := .codeWith yL_dump cL_dump 4 (some .int) [(0, 9, 12, 13)] :: cwL
abbrev wsX1_dump : List Cond := .code yX1_dump cX1_dump 3 (some .int) :: cwL
abbrev wsX0_clear : List Cond := .code yX0_clear cX0_clear 1 none :: cwL
abbrev wsX2_init : List Cond := .code yX2_init cX2_init 2 none :: cwL
abbrev wsX2_thrown : List Cond := .code yX2_thrown cX2_thrown 1 (some .int) :: cwL
abbrev wsX2_place : List Cond := .code yX2_place cX2_place 4 none :: cwL
abbrev wsX2_in : List Cond := .code yX2_in cX2_in 2 (some .boolean) :: cwL
abbrev wsX2_rate : List Cond := .code yX2_rate cX2_rate 4 none :: cwL
abbrev wsX2_accept : List Cond := .code yX2_accept cX2_accept 3 none :: cwL
abbrev wsX2_make : List Cond := .code yX2_make cX2_make 4 none :: cwL
abbrev wsX2_wagon : List Cond := .code yX2_wagon cX2_wagon 4 none :: cwL
abbrev wsX2_pass : List Cond := .code yX2_pass cX2_pass 5 (some .int) :: cwL
abbrev wsX2_produce : List Cond := .code yX2_produce cX2_produce 3 none :: cwL
abbrev wsX2_put : List Cond := .code yX2_put cX2_put 6 none :: cwL
abbrev wsX2_packets : List Cond := .code yX2_packets cX2_packets 4 (some .int) :: cwL
abbrev wsX2_isFirst : List Cond := .code yX2_isFirst cX2_isFirst 3 (some .boolean) :: cwL
abbrev wsX2_load : List Cond := .code yX2_load cX2_load 6 (some .int) :: cwL
abbrev wsX2_move : List Cond := .code yX2_move cX2_move 5 none :: cwL
abbrev wsX2_drop : List Cond := .code yX2_drop cX2_drop 3 none :: cwL
abbrev wsX2_unload : List Cond := .code yX2_unload cX2_unload 9 (some .int) :: cwL
abbrev wsX2_pay : List Cond := .code yX2_pay cX2_pay 6 none :: cwL
abbrev wsX2_apart : List Cond := .code yX2_apart cX2_apart 2 (some .int) :: cwL
abbrev wsX2_pour : List Cond := .code yX2_pour cX2_pour 4 none :: cwL
abbrev wsX2_part : List Cond := .code yX2_part cX2_part 7 none :: cwL
abbrev wsX2_dump : List Cond := .code yX2_dump cX2_dump 3 (some .int) :: cwL
abbrev wsX2_spend : List Cond := .code yX2_spend cX2_spend 2 (some .boolean) :: cwL
abbrev wsX2_packet : List Cond := .code yX2_packet cX2_packet 9 (some .int) :: cwL
abbrev wsX2_rowOf : List Cond := .code yX2_rowOf cX2_rowOf 3 (some .int) :: cwL
abbrev wsX2_units : List Cond := .code yX2_units cX2_units 4 (some .int) :: cwL
abbrev wsX2_count : List Cond := .code yX2_count cX2_count 5 (some .int) :: cwL
abbrev wsX2_sum : List Cond := .code yX2_sum cX2_sum 2 (some .int) :: cwL
theorem gAll {big : List Cond} (hb : ∀ w ∈ cwL, w ∈ big) {b : Cond} (h : b ∈ cwL) : GoodIn big (b :: cwL) := by
  intro w hw
  have hw' : w ∈ cwL := by
    rcases List.mem_cons.mp hw with rfl | h1
    · exact h
    · exact h1
  exact ⟨hb w hw', good_of_word (cw_good w hw')⟩
theorem gV {big : List Cond} (hb : ∀ w ∈ cwL, w ∈ big) {own C : String} {idx : Nat} {y : MethodName} {b : Cond} (h1 : Cond.methodLink own idx y ∈ cwL) (h2 : Cond.instanceMethod y ∈ cwL) (h3 : Cond.selects C y y ∈ cwL) (h4 : Cond.initialized C ∈ cwL) (h : b ∈ cwL) : GoodIn big (wsV own idx C y (b :: cwL)) := by
  intro w hw
  have hw' : w ∈ cwL := by
    rcases List.mem_append.mp hw with h9 | h9
    · rcases List.mem_cons.mp h9 with rfl | h9
      · exact h1
      rcases List.mem_cons.mp h9 with rfl | h9
      · exact h2
      rcases List.mem_cons.mp h9 with rfl | h9
      · exact h3
      rw [List.mem_singleton.mp h9]; exact h4
    · rcases List.mem_cons.mp h9 with rfl | h9
      · exact h
      · exact h9
  exact ⟨hb w hw', good_of_word (cw_good w hw')⟩
theorem gS {big : List Cond} (hb : ∀ w ∈ cwL, w ∈ big) {own : String} {idx : Nat} {y : MethodName} {b : Cond} (h1 : Cond.methodLink own idx y ∈ cwL) (h2 : Cond.static y ∈ cwL) (h3 : Cond.initialized y.cls ∈ cwL) (h : b ∈ cwL) : GoodIn big (va_wsS own idx y (b :: cwL)) := by
  intro w hw
  have hw' : w ∈ cwL := by
    rcases List.mem_append.mp hw with h9 | h9
    · rcases List.mem_cons.mp h9 with rfl | h9
      · exact h1
      rcases List.mem_cons.mp h9 with rfl | h9
      · exact h2
      rw [List.mem_singleton.mp h9]; exact h3
    · rcases List.mem_cons.mp h9 with rfl | h9
      · exact h
      · exact h9
  exact ⟨hb w hw', good_of_word (cw_good w hw')⟩
theorem cwc {a : Cond} : ∀ w ∈ cwL, w ∈ a :: cwL := fun _ h => List.mem_cons_of_mem _ h
