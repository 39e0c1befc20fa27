/-! the program as tables: by wip/gen/tables.py out of the Statement's words and bytes -/
def RX0 : String := "ChoreHouse$Chores"
def TX0 : u_T := fun k => match k with
  | 0 => ("ChoreHouse$Chores", "minded", "[[I", true)
  | 1 => ("ChoreHouse$Chores", "owner", "[I", true)
  | 2 => ("ChoreHouse$Chores", "giftsToFirst", "[I", true)
  | 3 => ("ChoreHouse$Chores", "queue", "[I", true)
  | 4 => ("ChoreHouse$Chores", "ring", "[I", true)
  | _ => ("ChoreHouse$Chores", "count", "I", false)
def tyX0 : Nat → FieldType := fun k => match k with
  | 0 => .array (.array .int)
  | 1 => .array .int
  | 2 => .array .int
  | 3 => .array .int
  | 4 => .array .int
  | _ => .int
abbrev wsX00 : List Cond := u_ws RX0 TX0 6
theorem nmX0 : ∀ a, a < 6 → ∀ b, b < 6 → a ≠ b → (TX0 a).2.1 ≠ (TX0 b).2.1 := by decide +kernel
theorem tyX0_ok : ∀ k, k < 6 → parseFieldDescriptor (TX0 k).2.2.1 = some (tyX0 k) := by decide +kernel
def RX1 : String := "ChoreHouse$Debts"
def TX1 : u_T := fun k => match k with
  | 0 => ("ChoreHouse$Debts", "balances", "[J", true)
  | 1 => ("ChoreHouse$Debts", "open", "[J", true)
  | 2 => ("ChoreHouse$Debts", "owing", "[I", true)
  | 3 => ("ChoreHouse$Debts", "heapsOfSet", "[I", true)
  | 4 => ("ChoreHouse$Debts", "payers", "[I", true)
  | 5 => ("ChoreHouse$Debts", "takers", "[I", true)
  | 6 => ("ChoreHouse$Debts", "moneys", "[J", true)
  | 7 => ("ChoreHouse$Debts", "owingCount", "I", false)
  | 8 => ("ChoreHouse$Debts", "planned", "I", false)
  | 9 => ("ChoreHouse$Debts", "noted", "I", false)
  | _ => ("ChoreHouse$Debts", "planStands", "Z", false)
def tyX1 : Nat → FieldType := fun k => match k with
  | 0 => .array .long
  | 1 => .array .long
  | 2 => .array .int
  | 3 => .array .int
  | 4 => .array .int
  | 5 => .array .int
  | 6 => .array .long
  | 7 => .int
  | 8 => .int
  | 9 => .int
  | _ => .boolean
abbrev wsX10 : List Cond := u_ws RX1 TX1 11
theorem nmX1 : ∀ a, a < 11 → ∀ b, b < 11 → a ≠ b → (TX1 a).2.1 ≠ (TX1 b).2.1 := by decide +kernel
theorem tyX1_ok : ∀ k, k < 11 → parseFieldDescriptor (TX1 k).2.2.1 = some (tyX1 k) := by decide +kernel
def RX2 : String := "ChoreHouse$Letting"
def TX2 : u_T := fun k => match k with
  | 0 => ("ChoreHouse$Letting", "values", "[[I", true)
  | 1 => ("ChoreHouse$Letting", "mostOfRest", "[I", true)
  | 2 => ("ChoreHouse$Letting", "roomOf", "[I", true)
  | 3 => ("ChoreHouse$Letting", "overRoomZero", "[I", true)
  | 4 => ("ChoreHouse$Letting", "rooms", "I", false)
  | _ => ("ChoreHouse$Letting", "rentOfAll", "I", false)
def tyX2 : Nat → FieldType := fun k => match k with
  | 0 => .array (.array .int)
  | 1 => .array .int
  | 2 => .array .int
  | 3 => .array .int
  | 4 => .int
  | _ => .int
abbrev wsX20 : List Cond := u_ws RX2 TX2 6
theorem nmX2 : ∀ a, a < 6 → ∀ b, b < 6 → a ≠ b → (TX2 a).2.1 ≠ (TX2 b).2.1 := by decide +kernel
theorem tyX2_ok : ∀ k, k < 6 → parseFieldDescriptor (TX2 k).2.2.1 = some (tyX2 k) := by decide +kernel
def RX3 : String := "ChoreHouse$Parting"
def TX3 : u_T := fun k => match k with
  | 0 => ("ChoreHouse$Parting", "weights", "[J", true)
  | 1 => ("ChoreHouse$Parting", "shares", "[J", true)
  | _ => ("ChoreHouse$Parting", "rests", "[J", true)
def tyX3 : Nat → FieldType := fun k => match k with
  | 0 => .array .long
  | 1 => .array .long
  | _ => .array .long
abbrev wsX30 : List Cond := u_ws RX3 TX3 3
theorem nmX3 : ∀ a, a < 3 → ∀ b, b < 3 → a ≠ b → (TX3 a).2.1 ≠ (TX3 b).2.1 := by decide +kernel
theorem tyX3_ok : ∀ k, k < 3 → parseFieldDescriptor (TX3 k).2.2.1 = some (tyX3 k) := by decide +kernel
def RX4 : String := "ChoreHouse$Stays"
def TX4 : u_T := fun k => match k with
  | 0 => ("ChoreHouse$Stays", "who", "[I", true)
  | 1 => ("ChoreHouse$Stays", "firstDay", "[I", true)
  | 2 => ("ChoreHouse$Stays", "lastDay", "[I", true)
  | 3 => ("ChoreHouse$Stays", "toldDay", "[I", true)
  | 4 => ("ChoreHouse$Stays", "struckDay", "[I", true)
  | _ => ("ChoreHouse$Stays", "count", "I", false)
def tyX4 : Nat → FieldType := fun k => match k with
  | 0 => .array .int
  | 1 => .array .int
  | 2 => .array .int
  | 3 => .array .int
  | 4 => .array .int
  | _ => .int
abbrev wsX40 : List Cond := u_ws RX4 TX4 6
theorem nmX4 : ∀ a, a < 6 → ∀ b, b < 6 → a ≠ b → (TX4 a).2.1 ≠ (TX4 b).2.1 := by decide +kernel
theorem tyX4_ok : ∀ k, k < 6 → parseFieldDescriptor (TX4 k).2.2.1 = some (tyX4 k) := by decide +kernel
def RX5 : String := "ChoreHouse$Trays"
def TX5 : u_T := fun k => match k with
  | 0 => ("ChoreHouse$Trays", "rows", "[[J", true)
  | 1 => ("ChoreHouse$Trays", "sorts", "[I", true)
  | _ => ("ChoreHouse$Trays", "lengths", "[I", true)
def tyX5 : Nat → FieldType := fun k => match k with
  | 0 => .array (.array .long)
  | 1 => .array .int
  | _ => .array .int
abbrev wsX50 : List Cond := u_ws RX5 TX5 3
theorem nmX5 : ∀ a, a < 3 → ∀ b, b < 3 → a ≠ b → (TX5 a).2.1 ≠ (TX5 b).2.1 := by decide +kernel
theorem tyX5_ok : ∀ k, k < 3 → parseFieldDescriptor (TX5 k).2.2.1 = some (tyX5 k) := by decide +kernel
def RX6 : String := "ChoreHouse"
def TX6 : u_T := fun k => match k with
  | 0 => ("ChoreHouse", "trays", "LChoreHouse$Trays;", true)
  | 1 => ("ChoreHouse", "stays", "LChoreHouse$Stays;", true)
  | 2 => ("ChoreHouse", "letting", "LChoreHouse$Letting;", true)
  | 3 => ("ChoreHouse", "chores", "LChoreHouse$Chores;", true)
  | 4 => ("ChoreHouse", "debts", "LChoreHouse$Debts;", true)
  | 5 => ("ChoreHouse", "parting", "LChoreHouse$Parting;", true)
  | 6 => ("ChoreHouse", "pointsOf", "[I", true)
  | 7 => ("ChoreHouse", "people", "I", false)
  | 8 => ("ChoreHouse", "latest", "I", false)
  | 9 => ("ChoreHouse", "fractionUpper", "J", false)
  | _ => ("ChoreHouse", "fractionLower", "J", false)
def tyX6 : Nat → FieldType := fun k => match k with
  | 0 => .object "ChoreHouse$Trays"
  | 1 => .object "ChoreHouse$Stays"
  | 2 => .object "ChoreHouse$Letting"
  | 3 => .object "ChoreHouse$Chores"
  | 4 => .object "ChoreHouse$Debts"
  | 5 => .object "ChoreHouse$Parting"
  | 6 => .array .int
  | 7 => .int
  | 8 => .int
  | 9 => .long
  | _ => .long
abbrev wsX60 : List Cond := u_ws RX6 TX6 11
theorem nmX6 : ∀ a, a < 11 → ∀ b, b < 11 → a ≠ b → (TX6 a).2.1 ≠ (TX6 b).2.1 := by decide +kernel
theorem tyX6_ok : ∀ k, k < 11 → parseFieldDescriptor (TX6 k).2.2.1 = some (tyX6 k) := by decide +kernel
def RX7 : String := "ChoreHouseModel"
def TX7 : u_T := fun k => match k with
  | 0 => ("ChoreHouseModel", "status", "I", false)
  | 1 => ("ChoreHouseModel", "thrown", "I", false)
  | 2 => ("ChoreHouseModel", "above", "J", false)
  | 3 => ("ChoreHouseModel", "under", "J", false)
  | 4 => ("ChoreHouseModel", "traySort", "[I", true)
  | 5 => ("ChoreHouseModel", "trayMany", "[I", true)
  | 6 => ("ChoreHouseModel", "numbers", "[J", true)
  | 7 => ("ChoreHouseModel", "people", "I", false)
  | 8 => ("ChoreHouseModel", "stays", "I", false)
  | 9 => ("ChoreHouseModel", "stayOf", "[I", true)
  | 10 => ("ChoreHouseModel", "stayFrom", "[I", true)
  | 11 => ("ChoreHouseModel", "stayTo", "[I", true)
  | 12 => ("ChoreHouseModel", "stayTold", "[I", true)
  | 13 => ("ChoreHouseModel", "stayStruck", "[I", true)
  | 14 => ("ChoreHouseModel", "isThere", "[Z", true)
  | 15 => ("ChoreHouseModel", "rooms", "I", false)
  | 16 => ("ChoreHouseModel", "rent", "I", false)
  | 17 => ("ChoreHouseModel", "value", "[I", true)
  | 18 => ("ChoreHouseModel", "order", "[I", true)
  | 19 => ("ChoreHouseModel", "best", "[I", true)
  | 20 => ("ChoreHouseModel", "far", "[J", true)
  | 21 => ("ChoreHouseModel", "chores", "I", false)
  | 22 => ("ChoreHouseModel", "mind", "[I", true)
  | 23 => ("ChoreHouseModel", "whose", "[I", true)
  | 24 => ("ChoreHouseModel", "ring", "[I", true)
  | 25 => ("ChoreHouseModel", "can", "[Z", true)
  | 26 => ("ChoreHouseModel", "payments", "I", false)
  | 27 => ("ChoreHouseModel", "payer", "[I", true)
  | 28 => ("ChoreHouseModel", "amount", "[I", true)
  | 29 => ("ChoreHouseModel", "among", "[I", true)
  | 30 => ("ChoreHouseModel", "balance", "[J", true)
  | 31 => ("ChoreHouseModel", "sums", "[J", true)
  | 32 => ("ChoreHouseModel", "heaps", "[I", true)
  | 33 => ("ChoreHouseModel", "pays", "[I", true)
  | 34 => ("ChoreHouseModel", "gets", "[I", true)
  | 35 => ("ChoreHouseModel", "much", "[J", true)
  | 36 => ("ChoreHouseModel", "plans", "I", false)
  | 37 => ("ChoreHouseModel", "points", "[I", true)
  | 38 => ("ChoreHouseModel", "weight", "[J", true)
  | 39 => ("ChoreHouseModel", "share", "[J", true)
  | _ => ("ChoreHouseModel", "rest", "[J", true)
def tyX7 : Nat → FieldType := fun k => match k with
  | 0 => .int
  | 1 => .int
  | 2 => .long
  | 3 => .long
  | 4 => .array .int
  | 5 => .array .int
  | 6 => .array .long
  | 7 => .int
  | 8 => .int
  | 9 => .array .int
  | 10 => .array .int
  | 11 => .array .int
  | 12 => .array .int
  | 13 => .array .int
  | 14 => .array .boolean
  | 15 => .int
  | 16 => .int
  | 17 => .array .int
  | 18 => .array .int
  | 19 => .array .int
  | 20 => .array .long
  | 21 => .int
  | 22 => .array .int
  | 23 => .array .int
  | 24 => .array .int
  | 25 => .array .boolean
  | 26 => .int
  | 27 => .array .int
  | 28 => .array .int
  | 29 => .array .int
  | 30 => .array .long
  | 31 => .array .long
  | 32 => .array .int
  | 33 => .array .int
  | 34 => .array .int
  | 35 => .array .long
  | 36 => .int
  | 37 => .array .int
  | 38 => .array .long
  | 39 => .array .long
  | _ => .array .long
abbrev wsX70 : List Cond := u_ws RX7 TX7 41
theorem nmX7 : ∀ a, a < 41 → ∀ b, b < 41 → a ≠ b → (TX7 a).2.1 ≠ (TX7 b).2.1 := by decide +kernel
theorem tyX7_ok : ∀ k, k < 41 → parseFieldDescriptor (TX7 k).2.2.1 = some (tyX7 k) := by decide +kernel
abbrev vwCl : List vw_C := [(RX0, TX0, 6), (RX1, TX1, 11), (RX2, TX2, 6), (RX3, TX3, 3), (RX4, TX4, 6), (RX5, TX5, 3), (RX6, TX6, 11), (RX7, TX7, 41)]
def oN : List String := ["ChoreHouse$Chores", "ChoreHouse$Debts", "ChoreHouse$Letting", "ChoreHouse$Parting", "ChoreHouse$Stays", "ChoreHouse$Trays", "ChoreHouse", "ChoreHouseModel", "java/lang/Integer", "java/lang/Math", "ChoreHouseLaw"]
def yT : List MethodName := [⟨"ChoreHouse$Chores", "<init>", "()V"⟩,
  ⟨"ChoreHouse$Chores", "isFull", "()Z"⟩,
  ⟨"ChoreHouse$Chores", "hasNumber", "(I)Z"⟩,
  ⟨"ChoreHouse$Chores", "ownerOf", "(I)I"⟩,
  ⟨"ChoreHouse$Chores", "add", "()I"⟩,
  ⟨"ChoreHouse$Chores", "setMinded", "(III)V"⟩,
  ⟨"ChoreHouse$Chores", "give", "(II)V"⟩,
  ⟨"ChoreHouse$Chores", "takeByTurns", "(II)V"⟩,
  ⟨"ChoreHouse$Chores", "leastMindedLeft", "(I)I"⟩,
  ⟨"ChoreHouse$Chores", "mindedOf", "(II)I"⟩,
  ⟨"ChoreHouse$Chores", "envyOf", "(II)I"⟩,
  ⟨"ChoreHouse$Chores", "mostMindedOwn", "(I)I"⟩,
  ⟨"ChoreHouse$Chores", "swapRing", "()I"⟩,
  ⟨"ChoreHouse$Chores", "canFollow", "(II)Z"⟩,
  ⟨"ChoreHouse$Chores", "countGiftsTo", "(I)V"⟩,
  ⟨"ChoreHouse$Chores", "ringLength", "(I)I"⟩,
  ⟨"ChoreHouse$Chores", "fillRing", "(II)V"⟩,
  ⟨"ChoreHouse$Chores", "leastNext", "(III)I"⟩,
  ⟨"ChoreHouse$Chores", "handOn", "(I)V"⟩,
  ⟨"ChoreHouse$Debts", "<init>", "()V"⟩,
  ⟨"ChoreHouse$Debts", "isFull", "()Z"⟩,
  ⟨"ChoreHouse$Debts", "balanceOf", "(I)J"⟩,
  ⟨"ChoreHouse$Debts", "note", "(III)V"⟩,
  ⟨"ChoreHouse$Debts", "clear", "()V"⟩,
  ⟨"ChoreHouse$Debts", "planLength", "()I"⟩,
  ⟨"ChoreHouse$Debts", "ofPayment", "(II)J"⟩,
  ⟨"ChoreHouse$Debts", "makePlan", "()V"⟩,
  ⟨"ChoreHouse$Debts", "gatherOwing", "()V"⟩,
  ⟨"ChoreHouse$Debts", "countHeaps", "()V"⟩,
  ⟨"ChoreHouse$Debts", "sumOf", "(I)J"⟩,
  ⟨"ChoreHouse$Debts", "mostHeapsWithoutOne", "(I)I"⟩,
  ⟨"ChoreHouse$Debts", "firstHeap", "(I)I"⟩,
  ⟨"ChoreHouse$Debts", "payWithin", "(I)V"⟩,
  ⟨"ChoreHouse$Debts", "firstOpen", "(IJ)I"⟩,
  ⟨"ChoreHouse$Letting", "<init>", "()V"⟩,
  ⟨"ChoreHouse$Letting", "hasNumber", "(I)Z"⟩,
  ⟨"ChoreHouse$Letting", "roomCount", "()I"⟩,
  ⟨"ChoreHouse$Letting", "begin", "(II)V"⟩,
  ⟨"ChoreHouse$Letting", "setValue", "(III)V"⟩,
  ⟨"ChoreHouse$Letting", "bestRoom", "(I)I"⟩,
  ⟨"ChoreHouse$Letting", "priceTimesRooms", "(I)J"⟩,
  ⟨"ChoreHouse$Letting", "assignBest", "()V"⟩,
  ⟨"ChoreHouse$Letting", "firstBest", "(II)I"⟩,
  ⟨"ChoreHouse$Letting", "withRest", "(III)I"⟩,
  ⟨"ChoreHouse$Letting", "findDearest", "()V"⟩,
  ⟨"ChoreHouse$Letting", "cheapenOwn", "(I)V"⟩,
  ⟨"ChoreHouse$Parting", "<init>", "()V"⟩,
  ⟨"ChoreHouse$Parting", "weigh", "(IJ)V"⟩,
  ⟨"ChoreHouse$Parting", "weightOfAll", "(I)J"⟩,
  ⟨"ChoreHouse$Parting", "shareOf", "(I)J"⟩,
  ⟨"ChoreHouse$Parting", "divide", "(IJ)V"⟩,
  ⟨"ChoreHouse$Parting", "greatestRest", "(I)I"⟩,
  ⟨"ChoreHouse$Stays", "<init>", "()V"⟩,
  ⟨"ChoreHouse$Stays", "isFull", "()Z"⟩,
  ⟨"ChoreHouse$Stays", "hasNumber", "(I)Z"⟩,
  ⟨"ChoreHouse$Stays", "isStruck", "(I)Z"⟩,
  ⟨"ChoreHouse$Stays", "add", "(IIII)I"⟩,
  ⟨"ChoreHouse$Stays", "strikeOut", "(II)V"⟩,
  ⟨"ChoreHouse$Stays", "daysThere", "(IIII)I"⟩,
  ⟨"ChoreHouse$Stays", "earliestReaching", "(III)I"⟩,
  ⟨"ChoreHouse$Stays", "isKnown", "(II)Z"⟩,
  ⟨"ChoreHouse$Trays", "<init>", "()V"⟩,
  ⟨"ChoreHouse$Trays", "whyNotLaid", "(III)I"⟩,
  ⟨"ChoreHouse$Trays", "whyMissing", "(I)I"⟩,
  ⟨"ChoreHouse$Trays", "whyNoPlace", "(II)I"⟩,
  ⟨"ChoreHouse$Trays", "whyNotPoured", "(IIIII)I"⟩,
  ⟨"ChoreHouse$Trays", "lay", "(III)V"⟩,
  ⟨"ChoreHouse$Trays", "put", "(IIJ)V"⟩,
  ⟨"ChoreHouse$Trays", "get", "(II)J"⟩,
  ⟨"ChoreHouse$Trays", "move", "(IIIII)V"⟩,
  ⟨"ChoreHouse$Trays", "isTray", "(I)Z"⟩,
  ⟨"ChoreHouse$Trays", "hasPlaces", "(III)Z"⟩,
  ⟨"ChoreHouse$Trays", "cut", "(JI)J"⟩,
  ⟨"ChoreHouse", "<init>", "()V"⟩,
  ⟨"ChoreHouse", "status", "()I"⟩,
  ⟨"ChoreHouse", "tray", "(III)Z"⟩,
  ⟨"ChoreHouse", "write", "(IIJ)Z"⟩,
  ⟨"ChoreHouse", "read", "(II)J"⟩,
  ⟨"ChoreHouse", "pour", "(IIIII)Z"⟩,
  ⟨"ChoreHouse", "person", "()I"⟩,
  ⟨"ChoreHouse", "stay", "(IIII)I"⟩,
  ⟨"ChoreHouse", "strike", "(II)Z"⟩,
  ⟨"ChoreHouse", "there", "(III)I"⟩,
  ⟨"ChoreHouse", "let", "(II)Z"⟩,
  ⟨"ChoreHouse", "value", "(III)Z"⟩,
  ⟨"ChoreHouse", "room", "(I)I"⟩,
  ⟨"ChoreHouse", "price", "(I)Z"⟩,
  ⟨"ChoreHouse", "upper", "()J"⟩,
  ⟨"ChoreHouse", "lower", "()J"⟩,
  ⟨"ChoreHouse", "chore", "()I"⟩,
  ⟨"ChoreHouse", "mind", "(III)Z"⟩,
  ⟨"ChoreHouse", "turns", "(II)Z"⟩,
  ⟨"ChoreHouse", "whose", "(I)I"⟩,
  ⟨"ChoreHouse", "burden", "(I)I"⟩,
  ⟨"ChoreHouse", "envies", "(II)I"⟩,
  ⟨"ChoreHouse", "swap", "()I"⟩,
  ⟨"ChoreHouse", "take", "(II)Z"⟩,
  ⟨"ChoreHouse", "paid", "(III)Z"⟩,
  ⟨"ChoreHouse", "balance", "(I)J"⟩,
  ⟨"ChoreHouse", "fewest", "()I"⟩,
  ⟨"ChoreHouse", "plan", "(II)J"⟩,
  ⟨"ChoreHouse", "settle", "()Z"⟩,
  ⟨"ChoreHouse", "part", "(III)Z"⟩,
  ⟨"ChoreHouse", "bill", "(IIIII)I"⟩,
  ⟨"ChoreHouse", "points", "(II)Z"⟩,
  ⟨"ChoreHouse", "hold", "(I)Z"⟩,
  ⟨"ChoreHouse", "has", "(I)I"⟩,
  ⟨"ChoreHouse", "within", "(JJJ)Z"⟩,
  ⟨"ChoreHouse", "isDay", "(I)Z"⟩,
  ⟨"ChoreHouse", "isSpan", "(II)Z"⟩,
  ⟨"ChoreHouse", "isParted", "(I)Z"⟩,
  ⟨"ChoreHouse", "isPerson", "(I)Z"⟩,
  ⟨"ChoreHouse", "whyNotPerson", "(IZ)I"⟩,
  ⟨"ChoreHouse", "whyNoStay", "(IIII)I"⟩,
  ⟨"ChoreHouse", "whyNotStruck", "(II)I"⟩,
  ⟨"ChoreHouse", "whyNoValue", "(III)I"⟩,
  ⟨"ChoreHouse", "whyNotMinded", "(III)I"⟩,
  ⟨"ChoreHouse", "whyNoTurns", "(II)I"⟩,
  ⟨"ChoreHouse", "whyNobodys", "(I)I"⟩,
  ⟨"ChoreHouse", "whyNotPaid", "(III)I"⟩,
  ⟨"ChoreHouse", "whyNotPlanned", "(II)I"⟩,
  ⟨"ChoreHouse", "whyNotParted", "(III)I"⟩,
  ⟨"ChoreHouse", "areWeights", "(II)Z"⟩,
  ⟨"ChoreHouse", "whyNotHeld", "(I)I"⟩,
  ⟨"ChoreHouse", "tellFraction", "(JI)V"⟩,
  ⟨"ChoreHouse", "partTray", "(III)V"⟩,
  ⟨"ChoreHouse", "weighByDays", "(III)V"⟩,
  ⟨"ChoreHouse", "weighByPoints", "()V"⟩,
  ⟨"ChoreHouse", "takePointsFromShares", "()V"⟩,
  ⟨"ChoreHouseModel", "<init>", "()V"⟩,
  ⟨"ChoreHouseModel", "status", "()I"⟩,
  ⟨"ChoreHouseModel", "refuse", "(I)I"⟩,
  ⟨"ChoreHouseModel", "no", "(I)Z"⟩,
  ⟨"ChoreHouseModel", "cut", "(IJ)J"⟩,
  ⟨"ChoreHouseModel", "tray", "(III)Z"⟩,
  ⟨"ChoreHouseModel", "trayed", "(I)I"⟩,
  ⟨"ChoreHouseModel", "placed", "(II)I"⟩,
  ⟨"ChoreHouseModel", "write", "(IIJ)Z"⟩,
  ⟨"ChoreHouseModel", "read", "(II)J"⟩,
  ⟨"ChoreHouseModel", "pour", "(IIIII)Z"⟩,
  ⟨"ChoreHouseModel", "isPerson", "(I)Z"⟩,
  ⟨"ChoreHouseModel", "isDay", "(I)Z"⟩,
  ⟨"ChoreHouseModel", "person", "()I"⟩,
  ⟨"ChoreHouseModel", "stay", "(IIII)I"⟩,
  ⟨"ChoreHouseModel", "strike", "(II)Z"⟩,
  ⟨"ChoreHouseModel", "counts", "(III)Z"⟩,
  ⟨"ChoreHouseModel", "there", "(III)I"⟩,
  ⟨"ChoreHouseModel", "daysOf", "(IIII)I"⟩,
  ⟨"ChoreHouseModel", "let", "(II)Z"⟩,
  ⟨"ChoreHouseModel", "isRoom", "(I)Z"⟩,
  ⟨"ChoreHouseModel", "value", "(III)Z"⟩,
  ⟨"ChoreHouseModel", "lets", "()V"⟩,
  ⟨"ChoreHouseModel", "room", "(I)I"⟩,
  ⟨"ChoreHouseModel", "common", "(JJ)J"⟩,
  ⟨"ChoreHouseModel", "price", "(I)Z"⟩,
  ⟨"ChoreHouseModel", "upper", "()J"⟩,
  ⟨"ChoreHouseModel", "lower", "()J"⟩,
  ⟨"ChoreHouseModel", "isChore", "(I)Z"⟩,
  ⟨"ChoreHouseModel", "chore", "()I"⟩,
  ⟨"ChoreHouseModel", "mind", "(III)Z"⟩,
  ⟨"ChoreHouseModel", "turns", "(II)Z"⟩,
  ⟨"ChoreHouseModel", "whose", "(I)I"⟩,
  ⟨"ChoreHouseModel", "minds", "(II)I"⟩,
  ⟨"ChoreHouseModel", "burden", "(I)I"⟩,
  ⟨"ChoreHouseModel", "envies", "(II)I"⟩,
  ⟨"ChoreHouseModel", "isBetter", "(II)Z"⟩,
  ⟨"ChoreHouseModel", "steps", "(II)V"⟩,
  ⟨"ChoreHouseModel", "rings", "(I)Z"⟩,
  ⟨"ChoreHouseModel", "swap", "()I"⟩,
  ⟨"ChoreHouseModel", "take", "(II)Z"⟩,
  ⟨"ChoreHouseModel", "paid", "(III)Z"⟩,
  ⟨"ChoreHouseModel", "balances", "()V"⟩,
  ⟨"ChoreHouseModel", "balance", "(I)J"⟩,
  ⟨"ChoreHouseModel", "heapsOf", "()I"⟩,
  ⟨"ChoreHouseModel", "planAll", "()V"⟩,
  ⟨"ChoreHouseModel", "settles", "(I)V"⟩,
  ⟨"ChoreHouseModel", "fewest", "()I"⟩,
  ⟨"ChoreHouseModel", "plan", "(II)J"⟩,
  ⟨"ChoreHouseModel", "settle", "()Z"⟩,
  ⟨"ChoreHouseModel", "parts", "(IJ)V"⟩,
  ⟨"ChoreHouseModel", "part", "(III)Z"⟩,
  ⟨"ChoreHouseModel", "bill", "(IIIII)I"⟩,
  ⟨"ChoreHouseModel", "points", "(II)Z"⟩,
  ⟨"ChoreHouseModel", "hold", "(I)Z"⟩,
  ⟨"ChoreHouseModel", "has", "(I)I"⟩,
  ⟨"java/lang/Integer", "numberOfTrailingZeros", "(I)I"⟩,
  ⟨"java/lang/Integer", "bitCount", "(I)I"⟩,
  ⟨"java/lang/Math", "abs", "(J)J"⟩,
  ⟨"java/lang/Math", "max", "(II)I"⟩,
  ⟨"java/lang/Math", "max", "(JJ)J"⟩,
  ⟨"java/lang/Math", "min", "(II)I"⟩,
  ⟨"java/lang/Math", "min", "(JJ)J"⟩,
  ⟨"ChoreHouseLaw", "law", "([I)Z"⟩]
def cdT : List ByteArray := [prog_2_method_1_code, prog_2_method_2_code, prog_2_method_3_code, prog_2_method_4_code, prog_2_method_5_code, prog_2_method_6_code, prog_2_method_7_code, prog_2_method_8_code, prog_2_method_9_code, prog_2_method_10_code, prog_2_method_11_code, prog_2_method_12_code, prog_2_method_13_code, prog_2_method_14_code, prog_2_method_15_code, prog_2_method_16_code, prog_2_method_17_code, prog_2_method_18_code, prog_2_method_19_code, prog_3_method_1_code, prog_3_method_2_code, prog_3_method_3_code, prog_3_method_4_code, prog_3_method_5_code, prog_3_method_6_code, prog_3_method_7_code, prog_3_method_8_code, prog_3_method_9_code, prog_3_method_10_code, prog_3_method_11_code, prog_3_method_12_code, prog_3_method_13_code, prog_3_method_14_code, prog_3_method_15_code, prog_4_method_1_code, prog_4_method_2_code, prog_4_method_3_code, prog_4_method_4_code, prog_4_method_5_code, prog_4_method_6_code, prog_4_method_7_code, prog_4_method_8_code, prog_4_method_9_code, prog_4_method_10_code, prog_4_method_11_code, prog_4_method_12_code, prog_5_method_1_code, prog_5_method_2_code, prog_5_method_3_code, prog_5_method_4_code, prog_5_method_5_code, prog_5_method_6_code, prog_6_method_1_code, prog_6_method_2_code, prog_6_method_3_code, prog_6_method_4_code, prog_6_method_5_code, prog_6_method_6_code, prog_6_method_7_code, prog_6_method_8_code, prog_6_method_9_code, prog_7_method_1_code, prog_7_method_2_code, prog_7_method_3_code, prog_7_method_4_code, prog_7_method_5_code, prog_7_method_6_code, prog_7_method_7_code, prog_7_method_8_code, prog_7_method_9_code, prog_7_method_10_code, prog_7_method_11_code, prog_7_method_12_code, prog_1_method_1_code, prog_1_method_2_code, prog_1_method_3_code, prog_1_method_4_code, prog_1_method_5_code, prog_1_method_6_code, prog_1_method_7_code, prog_1_method_8_code, prog_1_method_9_code, prog_1_method_10_code, prog_1_method_11_code, prog_1_method_12_code, prog_1_method_13_code, prog_1_method_14_code, prog_1_method_15_code, prog_1_method_16_code, prog_1_method_17_code, prog_1_method_18_code, prog_1_method_19_code, prog_1_method_20_code, prog_1_method_21_code, prog_1_method_22_code, prog_1_method_23_code, prog_1_method_24_code, prog_1_method_25_code, prog_1_method_26_code, prog_1_method_27_code, prog_1_method_28_code, prog_1_method_29_code, prog_1_method_30_code, prog_1_method_31_code, prog_1_method_32_code, prog_1_method_33_code, prog_1_method_34_code, prog_1_method_35_code, prog_1_method_36_code, prog_1_method_37_code, prog_1_method_38_code, prog_1_method_39_code, prog_1_method_40_code, prog_1_method_41_code, prog_1_method_42_code, prog_1_method_43_code, prog_1_method_44_code, prog_1_method_45_code, prog_1_method_46_code, prog_1_method_47_code, prog_1_method_48_code, prog_1_method_49_code, prog_1_method_50_code, prog_1_method_51_code, prog_1_method_52_code, prog_1_method_53_code, prog_1_method_54_code, prog_1_method_55_code, prog_1_method_56_code, prog_9_method_1_code, prog_9_method_3_code, prog_9_method_4_code, prog_9_method_5_code, prog_9_method_6_code, prog_9_method_7_code, prog_9_method_8_code, prog_9_method_9_code, prog_9_method_10_code, prog_9_method_11_code, prog_9_method_12_code, prog_9_method_13_code, prog_9_method_14_code, prog_9_method_15_code, prog_9_method_16_code, prog_9_method_17_code, prog_9_method_18_code, prog_9_method_19_code, prog_9_method_20_code, prog_9_method_21_code, prog_9_method_22_code, prog_9_method_23_code, prog_9_method_24_code, prog_9_method_25_code, prog_9_method_26_code, prog_9_method_27_code, prog_9_method_28_code, prog_9_method_29_code, prog_9_method_30_code, prog_9_method_31_code, prog_9_method_32_code, prog_9_method_33_code, prog_9_method_34_code, prog_9_method_35_code, prog_9_method_36_code, prog_9_method_37_code, prog_9_method_38_code, prog_9_method_39_code, prog_9_method_40_code, prog_9_method_41_code, prog_9_method_42_code, prog_9_method_43_code, prog_9_method_44_code, prog_9_method_45_code, prog_9_method_46_code, prog_9_method_47_code, prog_9_method_48_code, prog_9_method_49_code, prog_9_method_50_code, prog_9_method_51_code, prog_9_method_52_code, prog_9_method_53_code, prog_9_method_54_code, prog_9_method_55_code, prog_9_method_56_code, prog_9_method_57_code, prog_10_method_48_code, prog_10_method_49_code, prog_11_method_61_code, prog_11_method_65_code, prog_11_method_66_code, prog_11_method_69_code, prog_11_method_70_code, code]
def mlT : List Nat := [3, 1, 2, 2, 1, 4, 3, 6, 4, 5, 5, 4, 5, 5, 6, 5, 4, 5, 4, 1, 1, 2, 8, 2, 1, 3, 4, 2, 2, 5, 4, 5, 7, 5, 1, 2, 1, 5, 4, 2, 5, 5, 6, 4, 3, 5, 1, 4, 5, 2, 10, 4, 1, 1, 2, 2, 5, 3, 11, 7, 3, 2, 4, 2, 4, 6, 5, 5, 3, 6, 1, 4, 3, 1, 1, 4, 5, 3, 6, 1, 5, 3, 4, 4, 4, 2, 2, 1, 1, 1, 4, 3, 2, 2, 3, 2, 4, 4, 2, 1, 3, 1, 4, 6, 3, 2, 2, 6, 1, 2, 1, 2, 3, 6, 3, 4, 4, 3, 2, 6, 3, 5, 7, 2, 6, 5, 5, 2, 2, 2, 1, 2, 2, 3, 5, 2, 4, 5, 3, 9, 2, 1, 2, 5, 3, 4, 5, 8, 4, 2, 4, 8, 2, 10, 8, 1, 1, 2, 2, 4, 7, 2, 5, 2, 7, 4, 7, 5, 4, 3, 4, 5, 2, 5, 4, 7, 2, 3, 1, 10, 7, 9, 3, 5, 2, 2, 1, 2, 2, 4, 2, 4, 4]
def rtT : List (Option FieldType) := [none, (some .boolean), (some .boolean), (some .int), (some .int), none, none, none, (some .int), (some .int), (some .int), (some .int), (some .int), (some .boolean), none, (some .int), none, (some .int), none, none, (some .boolean), (some .long), none, none, (some .int), (some .long), none, none, none, (some .long), (some .int), (some .int), none, (some .int), none, (some .boolean), (some .int), none, none, (some .int), (some .long), none, (some .int), (some .int), none, none, none, none, (some .long), (some .long), none, (some .int), none, (some .boolean), (some .boolean), (some .boolean), (some .int), none, (some .int), (some .int), (some .boolean), none, (some .int), (some .int), (some .int), (some .int), none, none, (some .long), none, (some .boolean), (some .boolean), (some .long), none, (some .int), (some .boolean), (some .boolean), (some .long), (some .boolean), (some .int), (some .int), (some .boolean), (some .int), (some .boolean), (some .boolean), (some .int), (some .boolean), (some .long), (some .long), (some .int), (some .boolean), (some .boolean), (some .int), (some .int), (some .int), (some .int), (some .boolean), (some .boolean), (some .long), (some .int), (some .long), (some .boolean), (some .boolean), (some .int), (some .boolean), (some .boolean), (some .int), (some .boolean), (some .boolean), (some .boolean), (some .boolean), (some .boolean), (some .int), (some .int), (some .int), (some .int), (some .int), (some .int), (some .int), (some .int), (some .int), (some .int), (some .boolean), (some .int), none, none, none, none, none, none, (some .int), (some .int), (some .boolean), (some .long), (some .boolean), (some .int), (some .int), (some .boolean), (some .long), (some .boolean), (some .boolean), (some .boolean), (some .int), (some .int), (some .boolean), (some .boolean), (some .int), (some .int), (some .boolean), (some .boolean), (some .boolean), none, (some .int), (some .long), (some .boolean), (some .long), (some .long), (some .boolean), (some .int), (some .boolean), (some .boolean), (some .int), (some .int), (some .int), (some .int), (some .boolean), none, (some .boolean), (some .int), (some .boolean), (some .boolean), none, (some .long), (some .int), none, none, (some .int), (some .long), (some .boolean), none, (some .boolean), (some .int), (some .boolean), (some .boolean), (some .int), (some .int), (some .int), (some .long), (some .int), (some .long), (some .int), (some .long), (some .boolean)]
def owT : List Nat := [0, 0, 0, 0, 0, 0, 0, 0, 0, 0, 0, 0, 0, 0, 0, 0, 0, 0, 0, 1, 1, 1, 1, 1, 1, 1, 1, 1, 1, 1, 1, 1, 1, 1, 2, 2, 2, 2, 2, 2, 2, 2, 2, 2, 2, 2, 3, 3, 3, 3, 3, 3, 4, 4, 4, 4, 4, 4, 4, 4, 4, 5, 5, 5, 5, 5, 5, 5, 5, 5, 5, 5, 5, 6, 6, 6, 6, 6, 6, 6, 6, 6, 6, 6, 6, 6, 6, 6, 6, 6, 6, 6, 6, 6, 6, 6, 6, 6, 6, 6, 6, 6, 6, 6, 6, 6, 6, 6, 6, 6, 6, 6, 6, 6, 6, 6, 6, 6, 6, 6, 6, 6, 6, 6, 6, 6, 6, 6, 6, 7, 7, 7, 7, 7, 7, 7, 7, 7, 7, 7, 7, 7, 7, 7, 7, 7, 7, 7, 7, 7, 7, 7, 7, 7, 7, 7, 7, 7, 7, 7, 7, 7, 7, 7, 7, 7, 7, 7, 7, 7, 7, 7, 7, 7, 7, 7, 7, 7, 7, 7, 7, 7, 7, 7, 7, 8, 8, 9, 9, 9, 9, 9, 10]
def npT : List Nat := [0, 0, 1, 1, 0, 3, 2, 2, 1, 2, 2, 1, 0, 2, 1, 1, 2, 3, 1, 0, 0, 1, 3, 0, 0, 2, 0, 0, 0, 1, 1, 1, 1, 2, 0, 1, 0, 2, 3, 1, 1, 0, 2, 3, 0, 1, 0, 2, 1, 1, 2, 1, 0, 0, 1, 1, 4, 2, 4, 3, 2, 0, 3, 1, 2, 5, 3, 3, 2, 5, 1, 3, 2, 0, 0, 3, 3, 2, 5, 0, 4, 2, 3, 2, 3, 1, 1, 0, 0, 0, 3, 2, 1, 1, 2, 0, 2, 3, 1, 0, 2, 0, 3, 5, 2, 1, 1, 3, 1, 2, 1, 1, 2, 4, 2, 3, 3, 2, 1, 3, 2, 3, 2, 1, 2, 3, 3, 0, 0, 0, 0, 1, 1, 2, 3, 1, 2, 3, 2, 5, 1, 1, 0, 4, 2, 3, 3, 4, 2, 1, 3, 0, 1, 2, 1, 0, 0, 1, 0, 3, 2, 1, 2, 1, 2, 2, 2, 1, 0, 2, 3, 0, 1, 0, 0, 1, 0, 2, 0, 2, 3, 5, 2, 1, 1, 1, 1, 1, 2, 2, 2, 2, 1]
/-- 0: of an object, 1: static, 2: a constructor -/
def kdT : List Nat := [2, 0, 0, 0, 0, 0, 0, 0, 0, 0, 0, 0, 0, 0, 0, 0, 0, 0, 0, 2, 0, 0, 0, 0, 0, 0, 0, 0, 0, 0, 0, 0, 0, 0, 2, 0, 0, 0, 0, 0, 0, 0, 0, 0, 0, 0, 2, 0, 0, 0, 0, 0, 2, 0, 0, 0, 0, 0, 0, 0, 0, 2, 0, 0, 0, 0, 0, 0, 0, 0, 1, 0, 1, 2, 0, 0, 0, 0, 0, 0, 0, 0, 0, 0, 0, 0, 0, 0, 0, 0, 0, 0, 0, 0, 0, 0, 0, 0, 0, 0, 0, 0, 0, 0, 0, 0, 0, 1, 1, 1, 1, 0, 0, 0, 0, 0, 0, 0, 0, 0, 0, 0, 0, 0, 0, 0, 0, 0, 0, 2, 0, 0, 0, 1, 0, 0, 0, 0, 0, 0, 0, 1, 0, 0, 0, 0, 0, 0, 0, 0, 0, 0, 0, 1, 0, 0, 0, 0, 0, 0, 0, 0, 0, 0, 0, 0, 0, 0, 0, 0, 0, 0, 0, 0, 0, 0, 0, 0, 0, 0, 0, 0, 0, 0, 0, 1, 1, 1, 1, 1, 1, 1, 1]
def frT : List Nat := [1, 0, 0, 0, 0, 0, 0, 1, 0, 0, 2, 1, 3, 0, 1, 1, 2, 1, 0, 1, 0, 0, 1, 0, 4, 0, 3, 0, 2, 0, 1, 1, 1, 0, 1, 0, 0, 0, 0, 3, 3, 2, 1, 0, 2, 1, 1, 0, 0, 0, 1, 0, 1, 0, 0, 0, 0, 0, 2, 1, 0, 1, 1, 1, 2, 1, 0, 1, 0, 1, 0, 0, 0, 2, 0, 2, 3, 3, 2, 0, 4, 3, 3, 1, 2, 4, 4, 0, 0, 1, 2, 2, 2, 2, 3, 4, 1, 3, 2, 5, 6, 1, 4, 4, 2, 2, 2, 0, 1, 2, 1, 0, 1, 3, 2, 1, 1, 1, 1, 2, 5, 3, 1, 1, 0, 2, 3, 1, 1, 1, 0, 0, 0, 0, 1, 0, 1, 2, 2, 1, 0, 0, 1, 1, 1, 0, 1, 1, 1, 0, 1, 0, 1, 1, 2, 0, 0, 0, 1, 1, 1, 1, 0, 1, 1, 0, 1, 2, 3, 1, 1, 1, 2, 2, 3, 1, 3, 4, 0, 0, 1, 2, 1, 1, 1, 0, 0, 0, 0, 0, 0, 0, 9]
def loT : List Nat := [24, 0, 0, 0, 0, 0, 0, 23, 0, 0, 44, 21, 71, 0, 24, 24, 48, 24, 0, 24, 0, 0, 20, 0, 88, 0, 65, 0, 44, 0, 21, 24, 24, 0, 24, 0, 0, 0, 0, 72, 72, 48, 23, 0, 45, 21, 24, 0, 0, 0, 24, 0, 24, 0, 0, 0, 0, 0, 48, 22, 0, 24, 20, 20, 41, 23, 0, 22, 0, 40, 0, 0, 0, 46, 0, 43, 64, 64, 65, 0, 91, 67, 78, 25, 48, 93, 96, 0, 0, 20, 48, 48, 42, 43, 68, 95, 22, 68, 43, 108, 130, 21, 88, 102, 43, 53, 43, 0, 25, 45, 25, 0, 21, 66, 45, 25, 25, 25, 21, 43, 108, 64, 25, 25, 0, 53, 78, 23, 21, 24, 0, 0, 0, 0, 21, 0, 21, 44, 44, 21, 0, 0, 21, 21, 21, 0, 23, 23, 21, 0, 21, 0, 27, 21, 50, 0, 0, 0, 21, 21, 21, 21, 0, 24, 24, 0, 23, 49, 73, 21, 21, 20, 44, 44, 68, 23, 68, 91, 0, 0, 29, 50, 21, 29, 21, 0, 0, 0, 0, 0, 0, 0, 308]
def ceT : List Nat := [15, 0, 0, 0, 0, 0, 0, 0, 0, 0, 0, 0, 0, 0, 0, 0, 0, 0, 0, 7, 0, 0, 0, 0, 0, 0, 0, 0, 0, 0, 0, 0, 0, 0, 10, 0, 0, 0, 0, 0, 0, 0, 0, 0, 0, 0, 3, 0, 0, 0, 0, 0, 5, 0, 0, 0, 0, 0, 0, 0, 0, 7, 0, 0, 0, 0, 0, 0, 0, 0, 0, 0, 0, 54, 0, 0, 0, 0, 0, 0, 0, 0, 0, 0, 0, 0, 0, 0, 0, 0, 0, 0, 0, 0, 0, 0, 0, 0, 0, 0, 0, 0, 0, 0, 0, 0, 0, 0, 0, 0, 0, 0, 0, 0, 0, 0, 0, 0, 0, 0, 0, 0, 0, 0, 0, 0, 0, 0, 0, 30, 0, 0, 0, 0, 0, 0, 0, 0, 0, 0, 0, 0, 0, 0, 0, 0, 0, 0, 0, 0, 0, 0, 0, 0, 0, 0, 0, 0, 0, 0, 0, 0, 0, 0, 0, 0, 0, 0, 0, 0, 0, 0, 0, 0, 0, 0, 0, 0, 0, 0, 0, 0, 0, 0, 0, 0, 0, 0, 0, 0, 0, 0, 600000]
def slT : List Nat := [346, 0, 0, 0, 0, 0, 0, 0, 0, 0, 0, 0, 0, 0, 0, 0, 0, 0, 0, 1084, 0, 0, 0, 0, 0, 0, 0, 0, 0, 0, 0, 0, 0, 0, 118, 0, 0, 0, 0, 0, 0, 0, 0, 0, 0, 0, 120, 0, 0, 0, 0, 0, 300, 0, 0, 0, 0, 0, 0, 0, 0, 172, 0, 0, 0, 0, 0, 0, 0, 0, 0, 0, 0, 2185, 0, 0, 0, 0, 0, 0, 0, 0, 0, 0, 0, 0, 0, 0, 0, 0, 0, 0, 0, 0, 0, 0, 0, 0, 0, 0, 0, 0, 0, 0, 0, 0, 0, 0, 0, 0, 0, 0, 0, 0, 0, 0, 0, 0, 0, 0, 0, 0, 0, 0, 0, 0, 0, 0, 0, 13934, 0, 0, 0, 0, 0, 0, 0, 0, 0, 0, 0, 0, 0, 0, 0, 0, 0, 0, 0, 0, 0, 0, 0, 0, 0, 0, 0, 0, 0, 0, 0, 0, 0, 0, 0, 0, 0, 0, 0, 0, 0, 0, 0, 0, 0, 0, 0, 0, 0, 0, 0, 0, 0, 0, 0, 0, 0, 0, 0, 0, 0, 0, 7302249]
/-- fields: by class, pool number: class, place -/
def flT : List (List (Nat × Nat × Nat)) := [[(13, 0, 0), (16, 0, 1), (20, 0, 2), (23, 0, 3), (26, 0, 4), (29, 0, 5)],
  [(9, 1, 0), (15, 1, 1), (18, 1, 2), (22, 1, 3), (25, 1, 4), (28, 1, 5), (31, 1, 6), (34, 1, 7), (38, 1, 8), (41, 1, 9), (44, 1, 10)],
  [(11, 2, 0), (14, 2, 1), (18, 2, 2), (21, 2, 3), (24, 2, 4), (28, 2, 5)],
  [(9, 3, 0), (15, 3, 1), (18, 3, 2)],
  [(11, 4, 0), (15, 4, 1), (18, 4, 2), (21, 4, 3), (24, 4, 4), (27, 4, 5)],
  [(13, 5, 0), (16, 5, 1), (20, 5, 2)],
  [(10, 6, 0), (19, 6, 1), (26, 6, 2), (33, 6, 3), (40, 6, 4), (47, 6, 5), (51, 6, 6), (55, 6, 7), (59, 6, 8), (62, 6, 9), (66, 6, 10)],
  [(7, 7, 3), (13, 7, 4), (17, 7, 5), (20, 7, 6), (24, 7, 9), (27, 7, 10), (30, 7, 11), (33, 7, 12), (36, 7, 13), (39, 7, 14), (43, 7, 17), (46, 7, 18), (49, 7, 19), (52, 7, 20), (55, 7, 22), (58, 7, 23), (61, 7, 24), (64, 7, 25), (67, 7, 27), (70, 7, 28), (73, 7, 29), (76, 7, 30), (79, 7, 31), (82, 7, 32), (85, 7, 33), (88, 7, 34), (91, 7, 35), (94, 7, 37), (97, 7, 38), (100, 7, 39), (103, 7, 40), (106, 7, 1), (110, 7, 0), (131, 7, 7), (143, 7, 8), (159, 7, 15), (162, 7, 16), (183, 7, 2), (186, 7, 21), (207, 7, 26), (225, 7, 36)],
  [],
  [],
  []]
/-- calls: by class, pool number: the method; 1000: Object.<init>, 1001: System.arraycopy -/
def clT : List (List (Nat × Nat)) := [[(3, 1000), (33, 8), (37, 9), (41, 11), (44, 188), (49, 14), (53, 15), (56, 16), (60, 18), (63, 13), (67, 17)],
  [(3, 1000), (48, 186), (54, 26), (57, 27), (60, 28), (63, 31), (66, 32), (70, 30), (73, 29), (77, 188), (85, 33), (89, 191)],
  [(1, 1000), (31, 41), (34, 44), (37, 186), (43, 42), (47, 43), (52, 45), (56, 190)],
  [(3, 1000), (21, 48), (25, 51)],
  [(3, 1000), (31, 59), (35, 188), (41, 190), (44, 60)],
  [(3, 1000), (23, 70), (27, 63), (31, 71), (35, 72), (39, 1001)],
  [(1, 1000), (9, 61), (18, 52), (25, 34), (32, 0), (39, 19), (46, 46), (69, 62), (73, 66), (77, 64), (81, 67), (85, 68), (91, 65), (95, 69), (99, 113), (103, 56), (106, 114), (109, 57), (113, 108), (117, 112), (121, 58), (126, 107), (132, 37), (135, 115), (138, 38), (141, 35), (144, 39), (148, 40), (152, 36), (156, 124), (160, 1), (164, 4), (166, 116), (169, 5), (172, 117), (175, 7), (178, 118), (181, 3), (184, 9), (187, 111), (190, 10), (193, 12), (196, 2), (197, 6), (200, 119), (203, 22), (206, 21), (209, 24), (212, 120), (215, 25), (218, 23), (221, 121), (224, 125), (227, 110), (230, 109), (234, 126), (237, 48), (240, 50), (244, 49), (249, 127), (252, 123), (255, 128), (262, 53), (263, 54), (264, 55), (269, 20), (272, 63), (277, 122), (280, 47)],
  [(1, 1000), (113, 132), (117, 135), (121, 136), (125, 133), (134, 131), (137, 140), (140, 141), (146, 145), (150, 188), (155, 190), (165, 149), (168, 151), (171, 187), (177, 189), (180, 153), (189, 157), (192, 162), (195, 165), (199, 166), (203, 167), (210, 186), (215, 171), (218, 185), (221, 173), (228, 175), (232, 191), (234, 174), (240, 179), (244, 147)],
  [],
  [],
  [(9, 73), (12, 129), (13, 74), (17, 130), (18, 75), (22, 134), (25, 76), (29, 137), (30, 77), (34, 138), (35, 78), (39, 139), (40, 79), (43, 142), (44, 80), (48, 143), (49, 81), (53, 144), (54, 82), (58, 146), (59, 83), (62, 148), (63, 84), (66, 150), (67, 85), (71, 152), (72, 86), (76, 154), (77, 87), (81, 155), (82, 88), (85, 156), (86, 89), (89, 158), (90, 90), (93, 159), (94, 91), (97, 160), (98, 92), (101, 161), (102, 93), (105, 163), (106, 94), (110, 164), (111, 95), (114, 168), (115, 96), (118, 169), (119, 97), (122, 170), (123, 98), (127, 172), (128, 99), (131, 176), (132, 100), (135, 177), (136, 101), (140, 178), (141, 102), (144, 180), (145, 103), (149, 181), (150, 104), (153, 182), (154, 105), (157, 183), (158, 106), (161, 184)]]
/-- constants -/
def cnT : List (List (Nat × Value)) := [[],
  [(83, .long (-1))],
  [(51, .int 100001)],
  [(29, .long (-1))],
  [],
  [],
  [(89, .long (-1)), (124, .long 6), (130, .long 100000), (247, .long 1000000), (258, .long 9999), (260, .long 1000000000), (267, .long 1000), (270, .long 2), (275, .long 40)],
  [(129, .long (-1)), (158, .int 100000), (175, .long (-1000000000000)), (206, .int 1000000), (237, .int 1000000000), (238, .long 1000000)],
  [(264, .int 65536), (265, .int 1431655765), (266, .int 858993459), (267, .int 252645135)],
  [],
  [(23, .long 4294967295)]]
/-- new: the class -/
def nwT : List (List (Nat × Nat)) := [[],
  [],
  [],
  [],
  [],
  [],
  [(7, 5), (16, 4), (23, 2), (30, 0), (37, 1), (44, 3)],
  [],
  [],
  [],
  [(7, 6), (10, 7)]]
/-- new of rows of rows: 3: of int, 4: of long -/
def mnT : List (List (Nat × Nat)) := [[(11, 3)],
  [],
  [(9, 3)],
  [],
  [],
  [(11, 4)],
  [],
  [],
  [],
  [],
  []]
/-- a new object's fields -/
def dfT : List (List Value) := [[.null, .null, .null, .null, .null, .int 0],
  [.null, .null, .null, .null, .null, .null, .null, .int 0, .int 0, .int 0, .int 0],
  [.null, .null, .null, .null, .int 0, .int 0],
  [.null, .null, .null],
  [.null, .null, .null, .null, .null, .int 0],
  [.null, .null, .null],
  [.null, .null, .null, .null, .null, .null, .null, .int 0, .int 0, .long 0, .long 0],
  [.int 0, .int 0, .long 0, .long 0, .null, .null, .null, .int 0, .int 0, .null, .null, .null, .null, .null, .null, .int 0, .int 0, .null, .null, .null, .null, .int 0, .null, .null, .null, .null, .int 0, .null, .null, .null, .null, .null, .null, .null, .null, .null, .int 0, .null, .null, .null, .null]]
def tyT : List (Nat → FieldType) := [tyX0, tyX1, tyX2, tyX3, tyX4, tyX5, tyX6, tyX7]
/-- places of a method's words among lw_tbl: code, initialized, instance or static, selects -/
def wpT : List (Nat × Nat × Nat × Nat) := [(158, 67, 157, 9999), (509, 67, 507, 508), (525, 67, 523, 524), (558, 67, 556, 557), (513, 67, 511, 512), (530, 67, 528, 529), (620, 67, 618, 619), (542, 67, 540, 541), (546, 67, 545, 16), (566, 67, 564, 565), (574, 67, 572, 573), (579, 67, 578, 18), (588, 67, 586, 587), (596, 67, 595, 20), (592, 67, 591, 19), (600, 67, 599, 21), (604, 67, 603, 22), (608, 67, 607, 23), (612, 67, 611, 24), (184, 68, 183, 9999), (633, 68, 631, 632), (646, 68, 644, 645), (637, 68, 635, 636), (712, 68, 710, 711), (654, 68, 652, 653), (704, 68, 702, 703), (658, 68, 657, 26), (662, 68, 661, 27), (666, 68, 665, 28), (675, 68, 674, 30), (670, 68, 669, 29), (679, 68, 678, 31), (683, 68, 682, 32), (688, 68, 687, 33), (131, 66, 130, 9999), (437, 66, 435, 436), (489, 66, 487, 488), (425, 66, 423, 424), (441, 66, 439, 440), (449, 66, 447, 448), (475, 66, 473, 474), (453, 66, 452, 8), (463, 66, 462, 9), (467, 66, 466, 10), (479, 66, 478, 11), (484, 66, 483, 12), (224, 69, 223, 9999), (738, 69, 736, 737), (746, 69, 744, 745), (755, 69, 753, 754), (742, 69, 740, 741), (750, 69, 749, 38), (106, 65, 105, 9999), (369, 65, 367, 368), (385, 65, 383, 384), (389, 65, 387, 388), (373, 65, 371, 372), (393, 65, 391, 392), (401, 65, 399, 400), (405, 65, 404, 5), (409, 65, 408, 6), (86, 64, 85, 9999), (281, 64, 279, 280), (300, 64, 298, 299), (296, 64, 294, 295), (324, 64, 322, 323), (288, 64, 286, 287), (304, 64, 302, 303), (315, 64, 313, 314), (332, 64, 330, 331), (284, 64, 283, 9999), (328, 64, 327, 0), (307, 64, 306, 9999), (78, 63, 77, 9999), (273, 63, 271, 272), (277, 63, 275, 276), (292, 63, 290, 291), (311, 63, 309, 310), (320, 63, 318, 319), (339, 63, 337, 338), (343, 63, 341, 342), (377, 63, 375, 376), (397, 63, 395, 396), (419, 63, 417, 418), (429, 63, 427, 428), (445, 63, 443, 444), (471, 63, 469, 470), (497, 63, 495, 496), (501, 63, 499, 500), (505, 63, 503, 504), (517, 63, 515, 516), (534, 63, 532, 533), (550, 63, 548, 549), (562, 63, 560, 561), (570, 63, 568, 569), (584, 63, 582, 583), (616, 63, 614, 615), (624, 63, 622, 623), (642, 63, 640, 641), (650, 63, 648, 649), (695, 63, 693, 694), (708, 63, 706, 707), (716, 63, 714, 715), (759, 63, 757, 758), (768, 63, 766, 767), (772, 63, 770, 771), (788, 63, 786, 787), (357, 63, 356, 9999), (353, 63, 352, 9999), (350, 63, 349, 9999), (725, 63, 724, 9999), (365, 63, 364, 3), (361, 63, 360, 2), (347, 63, 346, 1), (381, 63, 380, 4), (433, 63, 432, 7), (521, 63, 520, 14), (538, 63, 537, 15), (554, 63, 553, 17), (628, 63, 627, 25), (699, 63, 698, 34), (720, 63, 719, 35), (730, 63, 729, 36), (780, 63, 779, 41), (493, 63, 492, 13), (734, 63, 733, 37), (763, 63, 762, 39), (776, 63, 775, 40), (784, 63, 783, 42), (793, 70, 792, 9999), (923, 70, 921, 922), (963, 70, 962, 46), (931, 70, 930, 43), (946, 70, 945, 9999), (927, 70, 925, 926), (943, 70, 942, 45), (939, 70, 938, 44), (935, 70, 933, 934), (950, 70, 948, 949), (955, 70, 953, 954), (971, 70, 970, 47), (974, 70, 973, 9999), (959, 70, 957, 958), (967, 70, 965, 966), (978, 70, 976, 977), (986, 70, 985, 48), (982, 70, 980, 981), (1143, 70, 1142, 61), (990, 70, 988, 989), (999, 70, 998, 49), (995, 70, 993, 994), (1007, 70, 1006, 50), (1003, 70, 1001, 1002), (1018, 70, 1017, 9999), (1011, 70, 1009, 1010), (1025, 70, 1023, 1024), (1029, 70, 1027, 1028), (1041, 70, 1040, 51), (1033, 70, 1031, 1032), (1037, 70, 1035, 1036), (1045, 70, 1043, 1044), (1049, 70, 1047, 1048), (1057, 70, 1056, 52), (1053, 70, 1051, 1052), (1061, 70, 1059, 1060), (1078, 70, 1077, 55), (1074, 70, 1073, 54), (1070, 70, 1069, 53), (1066, 70, 1064, 1065), (1082, 70, 1080, 1081), (1086, 70, 1084, 1085), (1095, 70, 1094, 56), (1091, 70, 1089, 1090), (1104, 70, 1103, 57), (1116, 70, 1115, 58), (1120, 70, 1119, 59), (1100, 70, 1098, 1099), (1112, 70, 1110, 1111), (1125, 70, 1123, 1124), (1135, 70, 1134, 60), (1129, 70, 1127, 1128), (1139, 70, 1137, 1138), (1148, 70, 1146, 1147), (1152, 70, 1150, 1151), (1156, 70, 1154, 1155), (1107, 73, 1106, 9999), (456, 73, 455, 9999), (1021, 72, 1020, 9999), (412, 72, 411, 9999), (1015, 72, 1014, 9999), (415, 72, 414, 9999), (691, 72, 690, 9999), (9999, 9999, 9999, 9999)]
def fpT : List (List Nat) := [[161, 162, 163, 164, 165, 166], [186, 187, 188, 189, 190, 191, 192, 193, 194, 195, 196], [135, 136, 137, 138, 139, 140], [226, 227, 228], [108, 109, 110, 111, 112, 113], [90, 91, 92], [236, 237, 238, 239, 240, 241, 242, 243, 244, 245, 246], [798, 799, 800, 801, 804, 805, 806, 807, 808, 809, 812, 813, 814, 815, 817, 818, 819, 820, 822, 823, 824, 825, 826, 827, 828, 829, 830, 832, 833, 834, 835, 796, 795, 802, 803, 810, 811, 797, 816, 821, 831], [], [], []]
def cpT : List (List Nat) := [[159, 543, 575, 576, 580, 589, 597, 601, 609, 593, 605], [185, 638, 655, 659, 663, 676, 680, 667, 672, 671, 685, 689], [132, 450, 476, 454, 460, 464, 481, 485], [225, 743, 747], [107, 402, 410, 413, 406], [87, 282, 297, 325, 305, 333], [79, 84, 104, 129, 156, 182, 222, 278, 285, 293, 301, 312, 321, 329, 344, 370, 378, 390, 351, 358, 398, 355, 422, 430, 438, 434, 446, 472, 486, 490, 506, 510, 518, 527, 535, 539, 551, 555, 563, 362, 571, 585, 522, 617, 625, 634, 643, 651, 696, 701, 709, 717, 731, 723, 348, 760, 764, 739, 752, 773, 777, 781, 366, 382, 386, 630, 721, 727, 735], [794, 928, 940, 936, 944, 960, 968, 972, 983, 1062, 1144, 996, 1004, 1019, 1013, 1016, 1038, 1054, 1075, 1071, 1067, 1096, 1092, 1105, 1101, 1117, 1121, 1113, 1132, 1140], [], [], [76, 791, 270, 920, 274, 924, 289, 932, 308, 947, 317, 952, 336, 956, 340, 964, 374, 975, 394, 979, 416, 987, 426, 992, 442, 1000, 468, 1008, 494, 1022, 498, 1026, 502, 1030, 514, 1034, 531, 1042, 547, 1046, 559, 1050, 567, 1058, 581, 1063, 613, 1079, 621, 1083, 639, 1088, 647, 1097, 692, 1109, 705, 1122, 713, 1126, 756, 1136, 765, 1145, 769, 1149, 785, 1153]]
def kpT : List (List Nat) := [[], [684], [480], [751], [], [], [316, 420, 421, 629, 354, 726, 526, 700, 722], [951, 991, 1012, 1087, 1130, 1131], [1108, 457, 458, 459], [], [1157]]
