section
/-! ===== BEGIN words of one list among another's, by their places ===== -/
theorem goodIn_r {big : List Cond} (ws : List Cond) (ps : List Nat) (hp : ws = ps.filterMap (fun i => big[i]?)) (h : ws.all goodWord = true) : GoodIn big ws := by
  intro w hw
  have h1 := List.all_eq_true.mp h w hw
  rw [hp] at hw
  obtain ⟨i, -, hi⟩ := List.mem_filterMap.mp hw
  have hm : w ∈ big := by first | exact List.mem_of_getElem? hi | exact List.getElem?_mem hi
  exact ⟨hm, good_of_word h1⟩
theorem goodIn_app {big a b : List Cond} (ha : GoodIn big a) (hb : GoodIn big b) : GoodIn big (a ++ b) := fun w h => (List.mem_append.mp h).elim (ha w) (hb w)
theorem goodIn_ca {big a b : List Cond} {c : Cond} (ha : GoodIn big (c :: a)) (hb : GoodIn big b) : GoodIn big (c :: (a ++ b)) := fun w h => (List.mem_cons.mp h).elim (fun e => ha w (List.mem_cons.mpr (Or.inl e))) (fun h => (List.mem_append.mp h).elim (fun h => ha w (List.mem_cons.mpr (Or.inr h))) (hb w))
theorem goodIn_sub {big ws : List Cond} (hm : ∀ w ∈ ws, w ∈ big) (h : ws.all goodWord = true) : GoodIn big ws := fun w hw => ⟨hm w hw, good_of_word (List.all_eq_true.mp h w hw)⟩
/-! ===== END ===== -/
def RX0 : String := "PetrolBoard$Coupons"
def TX0 : u_T := fun k => match k with
  | 0 => ("PetrolBoard$Coupons", "issued", "[I", true)
  | 1 => ("PetrolBoard$Coupons", "lent", "[I", true)
  | 2 => ("PetrolBoard$Coupons", "lentTo", "[I", true)
  | 3 => ("PetrolBoard$Coupons", "books", "I", false)
  | _ => ("PetrolBoard$Coupons", "lentNumber", "I", false)
def tyX0 : Nat → FieldType := fun k => match k with
  | 0 => .array .int
  | 1 => .array .int
  | 2 => .array .int
  | 3 => .int
  | _ => .int
abbrev wsX00 : List Cond := u_ws RX0 TX0 5
theorem nmX0 : ∀ a, a < 5 → ∀ b, b < 5 → a ≠ b → (TX0 a).2.1 ≠ (TX0 b).2.1 := by decide +kernel
theorem tyX0_ok : ∀ k, k < 5 → parseFieldDescriptor (TX0 k).2.2.1 = some (tyX0 k) := by decide +kernel
abbrev cX0_init : ByteArray := prog_2_method_1_code
def yX0_init : MethodName := ⟨RX0, "<init>", "()V"⟩
abbrev cX0_holderOf : ByteArray := prog_2_method_2_code
def yX0_holderOf : MethodName := ⟨RX0, "holderOf", "(I)I"⟩
abbrev cX0_monthOf : ByteArray := prog_2_method_3_code
def yX0_monthOf : MethodName := ⟨RX0, "monthOf", "(I)I"⟩
abbrev cX0_isIssued : ByteArray := prog_2_method_4_code
def yX0_isIssued : MethodName := ⟨RX0, "isIssued", "(II)Z"⟩
abbrev cX0_add : ByteArray := prog_2_method_5_code
def yX0_add : MethodName := ⟨RX0, "add", "(III)I"⟩
abbrev cX0_has : ByteArray := prog_2_method_6_code
def yX0_has : MethodName := ⟨RX0, "has", "(I)Z"⟩
abbrev cX0_lentAs : ByteArray := prog_2_method_7_code
def yX0_lentAs : MethodName := ⟨RX0, "lentAs", "(I)I"⟩
abbrev cX0_isLent : ByteArray := prog_2_method_8_code
def yX0_isLent : MethodName := ⟨RX0, "isLent", "(I)Z"⟩
abbrev cX0_lentOfBook : ByteArray := prog_2_method_9_code
def yX0_lentOfBook : MethodName := ⟨RX0, "lentOfBook", "(I)I"⟩
abbrev cX0_addLent : ByteArray := prog_2_method_10_code
def yX0_addLent : MethodName := ⟨RX0, "addLent", "(II)Z"⟩
abbrev cX0_ownerOf : ByteArray := prog_2_method_11_code
def yX0_ownerOf : MethodName := ⟨RX0, "ownerOf", "(I)I"⟩
def RX1 : String := "PetrolBoard$Deal"
def TX1 : u_T := fun k => match k with
  | 0 => ("PetrolBoard$Deal", "units", "[I", true)
  | 1 => ("PetrolBoard$Deal", "served", "[I", true)
  | _ => ("PetrolBoard$Deal", "number", "I", false)
def tyX1 : Nat → FieldType := fun k => match k with
  | 0 => .array .int
  | 1 => .array .int
  | _ => .int
abbrev wsX10 : List Cond := u_ws RX1 TX1 3
theorem nmX1 : ∀ a, a < 3 → ∀ b, b < 3 → a ≠ b → (TX1 a).2.1 ≠ (TX1 b).2.1 := by decide +kernel
theorem tyX1_ok : ∀ k, k < 3 → parseFieldDescriptor (TX1 k).2.2.1 = some (tyX1 k) := by decide +kernel
abbrev cX1_init : ByteArray := prog_3_method_1_code
def yX1_init : MethodName := ⟨RX1, "<init>", "()V"⟩
abbrev cX1_clear : ByteArray := prog_3_method_2_code
def yX1_clear : MethodName := ⟨RX1, "clear", "()V"⟩
abbrev cX1_put : ByteArray := prog_3_method_3_code
def yX1_put : MethodName := ⟨RX1, "put", "(I)V"⟩
abbrev cX1_unitsOf : ByteArray := prog_3_method_4_code
def yX1_unitsOf : MethodName := ⟨RX1, "unitsOf", "(I)I"⟩
abbrev cX1_together : ByteArray := prog_3_method_5_code
def yX1_together : MethodName := ⟨RX1, "together", "()I"⟩
abbrev cX1_alike : ByteArray := prog_3_method_6_code
def yX1_alike : MethodName := ⟨RX1, "alike", "()V"⟩
abbrev cX1_sell : ByteArray := prog_3_method_7_code
def yX1_sell : MethodName := ⟨RX1, "sell", "(LPetrolBoard$Holders;)V"⟩
abbrev cX1_bestBidder : ByteArray := prog_3_method_8_code
def yX1_bestBidder : MethodName := ⟨RX1, "bestBidder", "(LPetrolBoard$Holders;)I"⟩
def RX2 : String := "PetrolBoard$Holders"
def TX2 : u_T := fun k => match k with
  | 0 => ("PetrolBoard$Holders", "size", "[I", true)
  | 1 => ("PetrolBoard$Holders", "town", "[I", true)
  | 2 => ("PetrolBoard$Holders", "seats", "[I", true)
  | 3 => ("PetrolBoard$Holders", "bid", "[I", true)
  | 4 => ("PetrolBoard$Holders", "need", "[I", true)
  | 5 => ("PetrolBoard$Holders", "number", "I", false)
  | 6 => ("PetrolBoard$Holders", "noteOf", "[I", true)
  | 7 => ("PetrolBoard$Holders", "kind", "[I", true)
  | 8 => ("PetrolBoard$Holders", "from", "[I", true)
  | 9 => ("PetrolBoard$Holders", "toldOn", "[I", true)
  | 10 => ("PetrolBoard$Holders", "undoneOn", "[I", true)
  | _ => ("PetrolBoard$Holders", "notes", "I", false)
def tyX2 : Nat → FieldType := fun k => match k with
  | 0 => .array .int
  | 1 => .array .int
  | 2 => .array .int
  | 3 => .array .int
  | 4 => .array .int
  | 5 => .int
  | 6 => .array .int
  | 7 => .array .int
  | 8 => .array .int
  | 9 => .array .int
  | 10 => .array .int
  | _ => .int
abbrev wsX20 : List Cond := u_ws RX2 TX2 12
theorem nmX2 : ∀ a, a < 12 → ∀ b, b < 12 → a ≠ b → (TX2 a).2.1 ≠ (TX2 b).2.1 := by decide +kernel
theorem tyX2_ok : ∀ k, k < 12 → parseFieldDescriptor (TX2 k).2.2.1 = some (tyX2 k) := by decide +kernel
abbrev cX2_init : ByteArray := prog_4_method_1_code
def yX2_init : MethodName := ⟨RX2, "<init>", "()V"⟩
abbrev cX2_has : ByteArray := prog_4_method_2_code
def yX2_has : MethodName := ⟨RX2, "has", "(I)Z"⟩
abbrev cX2_add : ByteArray := prog_4_method_3_code
def yX2_add : MethodName := ⟨RX2, "add", "(IIIII)I"⟩
abbrev cX2_addNote : ByteArray := prog_4_method_4_code
def yX2_addNote : MethodName := ⟨RX2, "addNote", "(IIII)I"⟩
abbrev cX2_cancelNote : ByteArray := prog_4_method_5_code
def yX2_cancelNote : MethodName := ⟨RX2, "cancelNote", "(II)Z"⟩
abbrev cX2_kindOn : ByteArray := prog_4_method_6_code
def yX2_kindOn : MethodName := ⟨RX2, "kindOn", "(III)I"⟩
def RX3 : String := "PetrolBoard$Journeys"
def TX3 : u_T := fun k => match k with
  | 0 => ("PetrolBoard$Journeys", "holder", "[I", true)
  | 1 => ("PetrolBoard$Journeys", "miles", "[I", true)
  | 2 => ("PetrolBoard$Journeys", "people", "[I", true)
  | 3 => ("PetrolBoard$Journeys", "reason", "[I", true)
  | 4 => ("PetrolBoard$Journeys", "day", "[I", true)
  | 5 => ("PetrolBoard$Journeys", "way", "[I", true)
  | 6 => ("PetrolBoard$Journeys", "asked", "[I", true)
  | 7 => ("PetrolBoard$Journeys", "granted", "[I", true)
  | 8 => ("PetrolBoard$Journeys", "grantedFirst", "[I", true)
  | 9 => ("PetrolBoard$Journeys", "number", "I", false)
  | 10 => ("PetrolBoard$Journeys", "pooledSeats", "[I", true)
  | 11 => ("PetrolBoard$Journeys", "pooledCost", "[I", true)
  | 12 => ("PetrolBoard$Journeys", "pooled", "I", false)
  | 13 => ("PetrolBoard$Journeys", "poolPeople", "I", false)
  | 14 => ("PetrolBoard$Journeys", "poolCars", "I", false)
  | 15 => ("PetrolBoard$Journeys", "poolCost", "I", false)
  | _ => ("PetrolBoard$Journeys", "poolSet", "I", false)
def tyX3 : Nat → FieldType := fun k => match k with
  | 0 => .array .int
  | 1 => .array .int
  | 2 => .array .int
  | 3 => .array .int
  | 4 => .array .int
  | 5 => .array .int
  | 6 => .array .int
  | 7 => .array .int
  | 8 => .array .int
  | 9 => .int
  | 10 => .array .int
  | 11 => .array .int
  | 12 => .int
  | 13 => .int
  | 14 => .int
  | 15 => .int
  | _ => .int
abbrev wsX30 : List Cond := u_ws RX3 TX3 17
theorem nmX3 : ∀ a, a < 17 → ∀ b, b < 17 → a ≠ b → (TX3 a).2.1 ≠ (TX3 b).2.1 := by decide +kernel
theorem tyX3_ok : ∀ k, k < 17 → parseFieldDescriptor (TX3 k).2.2.1 = some (tyX3 k) := by decide +kernel
abbrev cX3_init : ByteArray := prog_5_method_1_code
def yX3_init : MethodName := ⟨RX3, "<init>", "()V"⟩
abbrev cX3_has : ByteArray := prog_5_method_2_code
def yX3_has : MethodName := ⟨RX3, "has", "(I)Z"⟩
abbrev cX3_add : ByteArray := prog_5_method_3_code
def yX3_add : MethodName := ⟨RX3, "add", "(IIIIII)I"⟩
abbrev cX3_tell : ByteArray := prog_5_method_4_code
def yX3_tell : MethodName := ⟨RX3, "tell", "(II)I"⟩
abbrev cX3_likeOf : ByteArray := prog_5_method_5_code
def yX3_likeOf : MethodName := ⟨RX3, "likeOf", "(LPetrolBoard$Holders;III)I"⟩
abbrev cX3_isLike : ByteArray := prog_5_method_6_code
def yX3_isLike : MethodName := ⟨RX3, "isLike", "(LPetrolBoard$Holders;III)Z"⟩
abbrev cX3_poolOf : ByteArray := prog_5_method_7_code
def yX3_poolOf : MethodName := ⟨RX3, "poolOf", "(LPetrolBoard$Holders;II)Z"⟩
abbrev cX3_gather : ByteArray := prog_5_method_8_code
def yX3_gather : MethodName := ⟨RX3, "gather", "(LPetrolBoard$Holders;II)V"⟩
abbrev cX3_weigh : ByteArray := prog_5_method_9_code
def yX3_weigh : MethodName := ⟨RX3, "weigh", "(I)V"⟩
def RX4 : String := "PetrolBoard$Loads"
def TX4 : u_T := fun k => match k with
  | 0 => ("PetrolBoard$Loads", "inPort", "[I", true)
  | 1 => ("PetrolBoard$Loads", "wanted", "[I", true)
  | 2 => ("PetrolBoard$Loads", "miles", "[[I", true)
  | 3 => ("PetrolBoard$Loads", "sent", "[[I", true)
  | 4 => ("PetrolBoard$Loads", "left", "[I", true)
  | 5 => ("PetrolBoard$Loads", "lacking", "[I", true)
  | 6 => ("PetrolBoard$Loads", "toPort", "[I", true)
  | 7 => ("PetrolBoard$Loads", "toStation", "[I", true)
  | 8 => ("PetrolBoard$Loads", "byPort", "[I", true)
  | 9 => ("PetrolBoard$Loads", "byStation", "[I", true)
  | 10 => ("PetrolBoard$Loads", "ports", "I", false)
  | 11 => ("PetrolBoard$Loads", "sentLoads", "I", false)
  | _ => ("PetrolBoard$Loads", "sentMiles", "I", false)
def tyX4 : Nat → FieldType := fun k => match k with
  | 0 => .array .int
  | 1 => .array .int
  | 2 => .array (.array .int)
  | 3 => .array (.array .int)
  | 4 => .array .int
  | 5 => .array .int
  | 6 => .array .int
  | 7 => .array .int
  | 8 => .array .int
  | 9 => .array .int
  | 10 => .int
  | 11 => .int
  | _ => .int
abbrev wsX40 : List Cond := u_ws RX4 TX4 13
theorem nmX4 : ∀ a, a < 13 → ∀ b, b < 13 → a ≠ b → (TX4 a).2.1 ≠ (TX4 b).2.1 := by decide +kernel
theorem tyX4_ok : ∀ k, k < 13 → parseFieldDescriptor (TX4 k).2.2.1 = some (tyX4 k) := by decide +kernel
abbrev cX4_init : ByteArray := prog_6_method_1_code
def yX4_init : MethodName := ⟨RX4, "<init>", "()V"⟩
abbrev cX4_hasPort : ByteArray := prog_6_method_2_code
def yX4_hasPort : MethodName := ⟨RX4, "hasPort", "(I)Z"⟩
abbrev cX4_addPort : ByteArray := prog_6_method_3_code
def yX4_addPort : MethodName := ⟨RX4, "addPort", "(I)I"⟩
abbrev cX4_putWant : ByteArray := prog_6_method_4_code
def yX4_putWant : MethodName := ⟨RX4, "putWant", "(II)V"⟩
abbrev cX4_putRoad : ByteArray := prog_6_method_5_code
def yX4_putRoad : MethodName := ⟨RX4, "putRoad", "(III)V"⟩
abbrev cX4_inPorts : ByteArray := prog_6_method_6_code
def yX4_inPorts : MethodName := ⟨RX4, "inPorts", "()I"⟩
abbrev cX4_send : ByteArray := prog_6_method_7_code
def yX4_send : MethodName := ⟨RX4, "send", "(I)V"⟩
abbrev cX4_cheapestEnd : ByteArray := prog_6_method_8_code
def yX4_cheapestEnd : MethodName := ⟨RX4, "cheapestEnd", "()I"⟩
abbrev cX4_shorten : ByteArray := prog_6_method_9_code
def yX4_shorten : MethodName := ⟨RX4, "shorten", "()Z"⟩
abbrev cX4_sendTo : ByteArray := prog_6_method_10_code
def yX4_sendTo : MethodName := ⟨RX4, "sendTo", "(I)V"⟩
abbrev cX4_loadTo : ByteArray := prog_6_method_11_code
def yX4_loadTo : MethodName := ⟨RX4, "loadTo", "(I)I"⟩
abbrev cX4_isPort : ByteArray := prog_6_method_12_code
def yX4_isPort : MethodName := ⟨RX4, "isPort", "(I)Z"⟩
abbrev cX4_isStation : ByteArray := prog_6_method_13_code
def yX4_isStation : MethodName := ⟨RX4, "isStation", "(I)Z"⟩
def RX5 : String := "PetrolBoard$Machine"
def TX5 : u_T := fun k => match k with
  | 0 => ("PetrolBoard$Machine", "names", "[I", true)
  | _ => ("PetrolBoard$Machine", "stack", "[I", true)
def tyX5 : Nat → FieldType := fun k => match k with
  | 0 => .array .int
  | _ => .array .int
abbrev wsX50 : List Cond := u_ws RX5 TX5 2
theorem nmX5 : ∀ a, a < 2 → ∀ b, b < 2 → a ≠ b → (TX5 a).2.1 ≠ (TX5 b).2.1 := by decide +kernel
theorem tyX5_ok : ∀ k, k < 2 → parseFieldDescriptor (TX5 k).2.2.1 = some (tyX5 k) := by decide +kernel
abbrev cX5_init : ByteArray := prog_7_method_1_code
def yX5_init : MethodName := ⟨RX5, "<init>", "()V"⟩
abbrev cX5_result : ByteArray := prog_7_method_2_code
def yX5_result : MethodName := ⟨RX5, "result", "([II)I"⟩
abbrev cX5_nameValue : ByteArray := prog_7_method_3_code
def yX5_nameValue : MethodName := ⟨RX5, "nameValue", "(I)I"⟩
abbrev cX5_joined : ByteArray := prog_7_method_4_code
def yX5_joined : MethodName := ⟨RX5, "joined", "(III)I"⟩
def RX6 : String := "PetrolBoard$OrderBook"
def TX6 : u_T := fun k => match k with
  | 0 => ("PetrolBoard$OrderBook", "told", "[LPetrolBoard$Orders;", true)
  | 1 => ("PetrolBoard$OrderBook", "machine", "LPetrolBoard$Machine;", true)
  | _ => ("PetrolBoard$OrderBook", "number", "I", false)
def tyX6 : Nat → FieldType := fun k => match k with
  | 0 => .array (.object "PetrolBoard$Orders")
  | 1 => .object "PetrolBoard$Machine"
  | _ => .int
abbrev wsX60 : List Cond := u_ws RX6 TX6 3
theorem nmX6 : ∀ a, a < 3 → ∀ b, b < 3 → a ≠ b → (TX6 a).2.1 ≠ (TX6 b).2.1 := by decide +kernel
theorem tyX6_ok : ∀ k, k < 3 → parseFieldDescriptor (TX6 k).2.2.1 = some (tyX6 k) := by decide +kernel
abbrev cX6_init : ByteArray := prog_8_method_1_code
def yX6_init : MethodName := ⟨RX6, "<init>", "()V"⟩
abbrev cX6_add : ByteArray := prog_8_method_2_code
def yX6_add : MethodName := ⟨RX6, "add", "(LPetrolBoard$Orders;)I"⟩
abbrev cX6_inForce : ByteArray := prog_8_method_3_code
def yX6_inForce : MethodName := ⟨RX6, "inForce", "(II)I"⟩
abbrev cX6_ordersOf : ByteArray := prog_8_method_4_code
def yX6_ordersOf : MethodName := ⟨RX6, "ordersOf", "(II)LPetrolBoard$Orders;"⟩
abbrev cX6_amount : ByteArray := prog_8_method_5_code
def yX6_amount : MethodName := ⟨RX6, "amount", "(III)I"⟩
abbrev cX6_unitsOf : ByteArray := prog_8_method_6_code
def yX6_unitsOf : MethodName := ⟨RX6, "unitsOf", "(LPetrolBoard$Holders;III)I"⟩
abbrev cX6_grant : ByteArray := prog_8_method_7_code
def yX6_grant : MethodName := ⟨RX6, "grant", "(LPetrolBoard$Holders;LPetrolBoard$Journeys;I)I"⟩
abbrev cX6_putHolder : ByteArray := prog_8_method_8_code
def yX6_putHolder : MethodName := ⟨RX6, "putHolder", "(LPetrolBoard$Holders;III)V"⟩
abbrev cX6_putJourney : ByteArray := prog_8_method_9_code
def yX6_putJourney : MethodName := ⟨RX6, "putJourney", "(III)V"⟩
def RX7 : String := "PetrolBoard$Orders"
def TX7 : u_T := fun k => match k with
  | 0 => ("PetrolBoard$Orders", "month", "I", true)
  | 1 => ("PetrolBoard$Orders", "toldOn", "I", true)
  | 2 => ("PetrolBoard$Orders", "head", "[I", true)
  | 3 => ("PetrolBoard$Orders", "first", "[I", true)
  | 4 => ("PetrolBoard$Orders", "second", "[I", true)
  | _ => ("PetrolBoard$Orders", "code", "[I", true)
def tyX7 : Nat → FieldType := fun k => match k with
  | 0 => .int
  | 1 => .int
  | 2 => .array .int
  | 3 => .array .int
  | 4 => .array .int
  | _ => .array .int
abbrev wsX70 : List Cond := u_ws RX7 TX7 6
theorem nmX7 : ∀ a, a < 6 → ∀ b, b < 6 → a ≠ b → (TX7 a).2.1 ≠ (TX7 b).2.1 := by decide +kernel
theorem tyX7_ok : ∀ k, k < 6 → parseFieldDescriptor (TX7 k).2.2.1 = some (tyX7 k) := by decide +kernel
abbrev cX7_init : ByteArray := prog_9_method_1_code
def yX7_init : MethodName := ⟨RX7, "<init>", "(LPetrolBoard$Reader;II)V"⟩
abbrev cX7_amount : ByteArray := prog_9_method_2_code
def yX7_amount : MethodName := ⟨RX7, "amount", "(I)I"⟩
abbrev cX7_stops : ByteArray := prog_9_method_3_code
def yX7_stops : MethodName := ⟨RX7, "stops", "(LPetrolBoard$Machine;)Z"⟩
abbrev cX7_dealt : ByteArray := prog_9_method_4_code
def yX7_dealt : MethodName := ⟨RX7, "dealt", "(ILPetrolBoard$Machine;)I"⟩
abbrev cX7_holds : ByteArray := prog_9_method_5_code
def yX7_holds : MethodName := ⟨RX7, "holds", "(ILPetrolBoard$Machine;)Z"⟩
def RX8 : String := "PetrolBoard$Pours"
def TX8 : u_T := fun k => match k with
  | 0 => ("PetrolBoard$Pours", "station", "[I", true)
  | 1 => ("PetrolBoard$Pours", "holder", "[I", true)
  | 2 => ("PetrolBoard$Pours", "coupon", "[I", true)
  | 3 => ("PetrolBoard$Pours", "day", "[I", true)
  | 4 => ("PetrolBoard$Pours", "tenths", "[I", true)
  | 5 => ("PetrolBoard$Pours", "verdict", "[I", true)
  | 6 => ("PetrolBoard$Pours", "dyed", "[I", true)
  | 7 => ("PetrolBoard$Pours", "ownerThen", "[I", true)
  | _ => ("PetrolBoard$Pours", "number", "I", false)
def tyX8 : Nat → FieldType := fun k => match k with
  | 0 => .array .int
  | 1 => .array .int
  | 2 => .array .int
  | 3 => .array .int
  | 4 => .array .int
  | 5 => .array .int
  | 6 => .array .int
  | 7 => .array .int
  | _ => .int
abbrev wsX80 : List Cond := u_ws RX8 TX8 9
theorem nmX8 : ∀ a, a < 9 → ∀ b, b < 9 → a ≠ b → (TX8 a).2.1 ≠ (TX8 b).2.1 := by decide +kernel
theorem tyX8_ok : ∀ k, k < 9 → parseFieldDescriptor (TX8 k).2.2.1 = some (tyX8 k) := by decide +kernel
abbrev cX8_init : ByteArray := prog_10_method_1_code
def yX8_init : MethodName := ⟨RX8, "<init>", "()V"⟩
abbrev cX8_has : ByteArray := prog_10_method_2_code
def yX8_has : MethodName := ⟨RX8, "has", "(I)Z"⟩
abbrev cX8_add : ByteArray := prog_10_method_3_code
def yX8_add : MethodName := ⟨RX8, "add", "(IIII)I"⟩
abbrev cX8_wasHandedIn : ByteArray := prog_10_method_4_code
def yX8_wasHandedIn : MethodName := ⟨RX8, "wasHandedIn", "(I)Z"⟩
abbrev cX8_tell : ByteArray := prog_10_method_5_code
def yX8_tell : MethodName := ⟨RX8, "tell", "(II)I"⟩
abbrev cX8_lastWasDyed : ByteArray := prog_10_method_6_code
def yX8_lastWasDyed : MethodName := ⟨RX8, "lastWasDyed", "(I)Z"⟩
abbrev cX8_given : ByteArray := prog_10_method_7_code
def yX8_given : MethodName := ⟨RX8, "given", "(III)I"⟩
abbrev cX8_counts : ByteArray := prog_10_method_8_code
def yX8_counts : MethodName := ⟨RX8, "counts", "(I)Z"⟩
abbrev cX8_judgedGood : ByteArray := prog_10_method_9_code
def yX8_judgedGood : MethodName := ⟨RX8, "judgedGood", "()I"⟩
abbrev cX8_judgedOtherwise : ByteArray := prog_10_method_10_code
def yX8_judgedOtherwise : MethodName := ⟨RX8, "judgedOtherwise", "()I"⟩
def RX9 : String := "PetrolBoard$Reader"
def TX9 : u_T := fun k => match k with
  | 0 => ("PetrolBoard$Reader", "text", "[I", true)
  | 1 => ("PetrolBoard$Reader", "taped", "I", false)
  | 2 => ("PetrolBoard$Reader", "tokens", "[I", true)
  | 3 => ("PetrolBoard$Reader", "values", "[I", true)
  | 4 => ("PetrolBoard$Reader", "places", "[I", true)
  | 5 => ("PetrolBoard$Reader", "scanned", "I", false)
  | 6 => ("PetrolBoard$Reader", "at", "I", false)
  | 7 => ("PetrolBoard$Reader", "token", "I", false)
  | 8 => ("PetrolBoard$Reader", "code", "[I", true)
  | 9 => ("PetrolBoard$Reader", "used", "I", false)
  | 10 => ("PetrolBoard$Reader", "head", "[I", true)
  | 11 => ("PetrolBoard$Reader", "first", "[I", true)
  | 12 => ("PetrolBoard$Reader", "second", "[I", true)
  | _ => ("PetrolBoard$Reader", "statements", "I", false)
def tyX9 : Nat → FieldType := fun k => match k with
  | 0 => .array .int
  | 1 => .int
  | 2 => .array .int
  | 3 => .array .int
  | 4 => .array .int
  | 5 => .int
  | 6 => .int
  | 7 => .int
  | 8 => .array .int
  | 9 => .int
  | 10 => .array .int
  | 11 => .array .int
  | 12 => .array .int
  | _ => .int
abbrev wsX90 : List Cond := u_ws RX9 TX9 14
theorem nmX9 : ∀ a, a < 14 → ∀ b, b < 14 → a ≠ b → (TX9 a).2.1 ≠ (TX9 b).2.1 := by decide +kernel
theorem tyX9_ok : ∀ k, k < 14 → parseFieldDescriptor (TX9 k).2.2.1 = some (tyX9 k) := by decide +kernel
abbrev cX9_init : ByteArray := prog_11_method_1_code
def yX9_init : MethodName := ⟨RX9, "<init>", "()V"⟩
abbrev cX9_put : ByteArray := prog_11_method_2_code
def yX9_put : MethodName := ⟨RX9, "put", "(I)V"⟩
abbrev cX9_read : ByteArray := prog_11_method_3_code
def yX9_read : MethodName := ⟨RX9, "read", "(I)I"⟩
abbrev cX9_place : ByteArray := prog_11_method_4_code
def yX9_place : MethodName := ⟨RX9, "place", "()I"⟩
abbrev cX9_statement : ByteArray := prog_11_method_5_code
def yX9_statement : MethodName := ⟨RX9, "statement", "(I)Z"⟩
abbrev cX9_condition : ByteArray := prog_11_method_6_code
def yX9_condition : MethodName := ⟨RX9, "condition", "(I)Z"⟩
abbrev cX9_amountOf : ByteArray := prog_11_method_7_code
def yX9_amountOf : MethodName := ⟨RX9, "amountOf", "(I)Z"⟩
abbrev cX9_either : ByteArray := prog_11_method_8_code
def yX9_either : MethodName := ⟨RX9, "either", "(I)Z"⟩
abbrev cX9_all : ByteArray := prog_11_method_9_code
def yX9_all : MethodName := ⟨RX9, "all", "(I)Z"⟩
abbrev cX9_one : ByteArray := prog_11_method_10_code
def yX9_one : MethodName := ⟨RX9, "one", "(I)Z"⟩
abbrev cX9_opened : ByteArray := prog_11_method_11_code
def yX9_opened : MethodName := ⟨RX9, "opened", "(I)Z"⟩
abbrev cX9_sum : ByteArray := prog_11_method_12_code
def yX9_sum : MethodName := ⟨RX9, "sum", "(I)Z"⟩
abbrev cX9_product : ByteArray := prog_11_method_13_code
def yX9_product : MethodName := ⟨RX9, "product", "(I)Z"⟩
abbrev cX9_atom : ByteArray := prog_11_method_14_code
def yX9_atom : MethodName := ⟨RX9, "atom", "(I)Z"⟩
abbrev cX9_taken : ByteArray := prog_11_method_15_code
def yX9_taken : MethodName := ⟨RX9, "taken", "(I)Z"⟩
abbrev cX9_emit : ByteArray := prog_11_method_16_code
def yX9_emit : MethodName := ⟨RX9, "emit", "(I)V"⟩
abbrev cX9_numberHere : ByteArray := prog_11_method_17_code
def yX9_numberHere : MethodName := ⟨RX9, "numberHere", "()I"⟩
abbrev cX9_step : ByteArray := prog_11_method_18_code
def yX9_step : MethodName := ⟨RX9, "step", "()V"⟩
abbrev cX9_scan : ByteArray := prog_11_method_19_code
def yX9_scan : MethodName := ⟨RX9, "scan", "(I)V"⟩
abbrev cX9_addToken : ByteArray := prog_11_method_20_code
def yX9_addToken : MethodName := ⟨RX9, "addToken", "(III)V"⟩
abbrev cX9_endOf : ByteArray := prog_11_method_21_code
def yX9_endOf : MethodName := ⟨RX9, "endOf", "(II)I"⟩
abbrev cX9_tokenOf : ByteArray := prog_11_method_22_code
def yX9_tokenOf : MethodName := ⟨RX9, "tokenOf", "(II)I"⟩
abbrev cX9_numberOf : ByteArray := prog_11_method_23_code
def yX9_numberOf : MethodName := ⟨RX9, "numberOf", "(II)I"⟩
abbrev cX9_wordOf : ByteArray := prog_11_method_24_code
def yX9_wordOf : MethodName := ⟨RX9, "wordOf", "(II)I"⟩
abbrev cX9_isWord : ByteArray := prog_11_method_25_code
def yX9_isWord : MethodName := ⟨RX9, "isWord", "(Ljava/lang/String;II)Z"⟩
abbrev cX9_isBlank : ByteArray := prog_11_method_26_code
def yX9_isBlank : MethodName := ⟨RX9, "isBlank", "(I)Z"⟩
abbrev cX9_isLetter : ByteArray := prog_11_method_27_code
def yX9_isLetter : MethodName := ⟨RX9, "isLetter", "(I)Z"⟩
abbrev cX9_isDigit : ByteArray := prog_11_method_28_code
def yX9_isDigit : MethodName := ⟨RX9, "isDigit", "(I)Z"⟩
abbrev cX9_isSign : ByteArray := prog_11_method_29_code
def yX9_isSign : MethodName := ⟨RX9, "isSign", "(I)Z"⟩
abbrev cX9_wordText : ByteArray := prog_11_method_30_code
def yX9_wordText : MethodName := ⟨RX9, "wordText", "(I)Ljava/lang/String;"⟩
def RX10 : String := "PetrolBoard$Station"
def TX10 : u_T := fun k => match k with
  | 0 => ("PetrolBoard$Station", "told", "[I", true)
  | 1 => ("PetrolBoard$Station", "dipDay", "[I", true)
  | 2 => ("PetrolBoard$Station", "deliveredThen", "[I", true)
  | 3 => ("PetrolBoard$Station", "pouredThen", "[I", true)
  | 4 => ("PetrolBoard$Station", "dips", "I", false)
  | 5 => ("PetrolBoard$Station", "deliveries", "I", false)
  | 6 => ("PetrolBoard$Station", "delivered", "I", false)
  | 7 => ("PetrolBoard$Station", "low", "[I", true)
  | 8 => ("PetrolBoard$Station", "high", "[I", true)
  | _ => ("PetrolBoard$Station", "in", "[I", true)
def tyX10 : Nat → FieldType := fun k => match k with
  | 0 => .array .int
  | 1 => .array .int
  | 2 => .array .int
  | 3 => .array .int
  | 4 => .int
  | 5 => .int
  | 6 => .int
  | 7 => .array .int
  | 8 => .array .int
  | _ => .array .int
abbrev wsX100 : List Cond := u_ws RX10 TX10 10
theorem nmX10 : ∀ a, a < 10 → ∀ b, b < 10 → a ≠ b → (TX10 a).2.1 ≠ (TX10 b).2.1 := by decide +kernel
theorem tyX10_ok : ∀ k, k < 10 → parseFieldDescriptor (TX10 k).2.2.1 = some (tyX10 k) := by decide +kernel
abbrev cX10_init : ByteArray := prog_12_method_1_code
def yX10_init : MethodName := ⟨RX10, "<init>", "()V"⟩
abbrev cX10_addDelivery : ByteArray := prog_12_method_2_code
def yX10_addDelivery : MethodName := ⟨RX10, "addDelivery", "(I)I"⟩
abbrev cX10_addDip : ByteArray := prog_12_method_3_code
def yX10_addDip : MethodName := ⟨RX10, "addDip", "(III)I"⟩
abbrev cX10_hasSpan : ByteArray := prog_12_method_4_code
def yX10_hasSpan : MethodName := ⟨RX10, "hasSpan", "(II)Z"⟩
abbrev cX10_lowestFirst : ByteArray := prog_12_method_5_code
def yX10_lowestFirst : MethodName := ⟨RX10, "lowestFirst", "(II)J"⟩
abbrev cX10_inTogether : ByteArray := prog_12_method_6_code
def yX10_inTogether : MethodName := ⟨RX10, "inTogether", "(II)J"⟩
abbrev cX10_mostBlack : ByteArray := prog_12_method_7_code
def yX10_mostBlack : MethodName := ⟨RX10, "mostBlack", "(II)J"⟩
abbrev cX10_leastBlack : ByteArray := prog_12_method_8_code
def yX10_leastBlack : MethodName := ⟨RX10, "leastBlack", "(II)J"⟩
abbrev cX10_blackBy : ByteArray := prog_12_method_9_code
def yX10_blackBy : MethodName := ⟨RX10, "blackBy", "([III)J"⟩
def RX11 : String := "PetrolBoard"
def TX11 : u_T := fun k => match k with
  | 0 => ("PetrolBoard", "today", "I", false)
  | 1 => ("PetrolBoard", "faultPlace", "I", false)
  | 2 => ("PetrolBoard", "holders", "LPetrolBoard$Holders;", true)
  | 3 => ("PetrolBoard", "reader", "LPetrolBoard$Reader;", true)
  | 4 => ("PetrolBoard", "orderBook", "LPetrolBoard$OrderBook;", true)
  | 5 => ("PetrolBoard", "coupons", "LPetrolBoard$Coupons;", true)
  | 6 => ("PetrolBoard", "pours", "LPetrolBoard$Pours;", true)
  | 7 => ("PetrolBoard", "stations", "[LPetrolBoard$Station;", true)
  | 8 => ("PetrolBoard", "stationNumber", "I", false)
  | 9 => ("PetrolBoard", "row", "[I", true)
  | 10 => ("PetrolBoard", "loads", "LPetrolBoard$Loads;", true)
  | 11 => ("PetrolBoard", "journeys", "LPetrolBoard$Journeys;", true)
  | _ => ("PetrolBoard", "deal", "LPetrolBoard$Deal;", true)
def tyX11 : Nat → FieldType := fun k => match k with
  | 0 => .int
  | 1 => .int
  | 2 => .object "PetrolBoard$Holders"
  | 3 => .object "PetrolBoard$Reader"
  | 4 => .object "PetrolBoard$OrderBook"
  | 5 => .object "PetrolBoard$Coupons"
  | 6 => .object "PetrolBoard$Pours"
  | 7 => .array (.object "PetrolBoard$Station")
  | 8 => .int
  | 9 => .array .int
  | 10 => .object "PetrolBoard$Loads"
  | 11 => .object "PetrolBoard$Journeys"
  | _ => .object "PetrolBoard$Deal"
abbrev wsX110 : List Cond := u_ws RX11 TX11 13
theorem nmX11 : ∀ a, a < 13 → ∀ b, b < 13 → a ≠ b → (TX11 a).2.1 ≠ (TX11 b).2.1 := by decide +kernel
theorem tyX11_ok : ∀ k, k < 13 → parseFieldDescriptor (TX11 k).2.2.1 = some (tyX11 k) := by decide +kernel
abbrev cX11_init : ByteArray := prog_1_method_1_code
def yX11_init : MethodName := ⟨RX11, "<init>", "()V"⟩
abbrev cX11_day : ByteArray := prog_1_method_2_code
def yX11_day : MethodName := ⟨RX11, "day", "(I)Z"⟩
abbrev cX11_holder : ByteArray := prog_1_method_3_code
def yX11_holder : MethodName := ⟨RX11, "holder", "(IIIII)I"⟩
abbrev cX11_note : ByteArray := prog_1_method_4_code
def yX11_note : MethodName := ⟨RX11, "note", "(III)I"⟩
abbrev cX11_undo : ByteArray := prog_1_method_5_code
def yX11_undo : MethodName := ⟨RX11, "undo", "(I)Z"⟩
abbrev cX11_classOf : ByteArray := prog_1_method_6_code
def yX11_classOf : MethodName := ⟨RX11, "classOf", "(III)I"⟩
abbrev cX11_feed : ByteArray := prog_1_method_7_code
def yX11_feed : MethodName := ⟨RX11, "feed", "(IIIII)I"⟩
abbrev cX11_orders : ByteArray := prog_1_method_8_code
def yX11_orders : MethodName := ⟨RX11, "orders", "(II)I"⟩
abbrev cX11_fault : ByteArray := prog_1_method_9_code
def yX11_fault : MethodName := ⟨RX11, "fault", "()I"⟩
abbrev cX11_rule : ByteArray := prog_1_method_10_code
def yX11_rule : MethodName := ⟨RX11, "rule", "(III)I"⟩
abbrev cX11_units : ByteArray := prog_1_method_11_code
def yX11_units : MethodName := ⟨RX11, "units", "(III)I"⟩
abbrev cX11_issue : ByteArray := prog_1_method_12_code
def yX11_issue : MethodName := ⟨RX11, "issue", "(II)I"⟩
abbrev cX11_lend : ByteArray := prog_1_method_13_code
def yX11_lend : MethodName := ⟨RX11, "lend", "(II)Z"⟩
abbrev cX11_owner : ByteArray := prog_1_method_14_code
def yX11_owner : MethodName := ⟨RX11, "owner", "(I)I"⟩
abbrev cX11_station : ByteArray := prog_1_method_15_code
def yX11_station : MethodName := ⟨RX11, "station", "()I"⟩
abbrev cX11_stationAt : ByteArray := prog_1_method_16_code
def yX11_stationAt : MethodName := ⟨RX11, "stationAt", "(I)LPetrolBoard$Station;"⟩
abbrev cX11_hasStation : ByteArray := prog_1_method_17_code
def yX11_hasStation : MethodName := ⟨RX11, "hasStation", "(I)Z"⟩
abbrev cX11_pour : ByteArray := prog_1_method_18_code
def yX11_pour : MethodName := ⟨RX11, "pour", "(III)I"⟩
abbrev cX11_isFarmerNow : ByteArray := prog_1_method_19_code
def yX11_isFarmerNow : MethodName := ⟨RX11, "isFarmerNow", "(I)Z"⟩
abbrev cX11_handIn : ByteArray := prog_1_method_20_code
def yX11_handIn : MethodName := ⟨RX11, "handIn", "(I)I"⟩
abbrev cX11_verdictOn : ByteArray := prog_1_method_21_code
def yX11_verdictOn : MethodName := ⟨RX11, "verdictOn", "(I)I"⟩
abbrev cX11_poured : ByteArray := prog_1_method_22_code
def yX11_poured : MethodName := ⟨RX11, "poured", "(II)I"⟩
abbrev cX11_found : ByteArray := prog_1_method_23_code
def yX11_found : MethodName := ⟨RX11, "found", "(I)I"⟩
abbrev cX11_deliver : ByteArray := prog_1_method_24_code
def yX11_deliver : MethodName := ⟨RX11, "deliver", "(II)I"⟩
abbrev cX11_dip : ByteArray := prog_1_method_25_code
def yX11_dip : MethodName := ⟨RX11, "dip", "(II)I"⟩
abbrev cX11_in : ByteArray := prog_1_method_26_code
def yX11_in : MethodName := ⟨RX11, "in", "(II)I"⟩
abbrev cX11_inBehind : ByteArray := prog_1_method_27_code
def yX11_inBehind : MethodName := ⟨RX11, "inBehind", "(LPetrolBoard$Station;II)I"⟩
abbrev cX11_sums : ByteArray := prog_1_method_28_code
def yX11_sums : MethodName := ⟨RX11, "sums", "(IIII)J"⟩
abbrev cX11_putBounds : ByteArray := prog_1_method_29_code
def yX11_putBounds : MethodName := ⟨RX11, "putBounds", "(LPetrolBoard$Station;III)V"⟩
abbrev cX11_level : ByteArray := prog_1_method_30_code
def yX11_level : MethodName := ⟨RX11, "level", "(II)Z"⟩
abbrev cX11_judged : ByteArray := prog_1_method_31_code
def yX11_judged : MethodName := ⟨RX11, "judged", "(III)J"⟩
abbrev cX11_port : ByteArray := prog_1_method_32_code
def yX11_port : MethodName := ⟨RX11, "port", "(I)I"⟩
abbrev cX11_want : ByteArray := prog_1_method_33_code
def yX11_want : MethodName := ⟨RX11, "want", "(II)Z"⟩
abbrev cX11_road : ByteArray := prog_1_method_34_code
def yX11_road : MethodName := ⟨RX11, "road", "(III)Z"⟩
abbrev cX11_flow : ByteArray := prog_1_method_35_code
def yX11_flow : MethodName := ⟨RX11, "flow", "(II)I"⟩
abbrev cX11_ask : ByteArray := prog_1_method_36_code
def yX11_ask : MethodName := ⟨RX11, "ask", "(IIIIII)I"⟩
abbrev cX11_appeal : ByteArray := prog_1_method_37_code
def yX11_appeal : MethodName := ⟨RX11, "appeal", "(II)I"⟩
abbrev cX11_journey : ByteArray := prog_1_method_38_code
def yX11_journey : MethodName := ⟨RX11, "journey", "(II)I"⟩
abbrev cX11_pool : ByteArray := prog_1_method_39_code
def yX11_pool : MethodName := ⟨RX11, "pool", "(III)I"⟩
abbrev cX11_other : ByteArray := prog_1_method_40_code
def yX11_other : MethodName := ⟨RX11, "other", "(IIII)I"⟩
abbrev cX11_stays : ByteArray := prog_1_method_41_code
def yX11_stays : MethodName := ⟨RX11, "stays", "(II)I"⟩
abbrev cX11_remains : ByteArray := prog_1_method_42_code
def yX11_remains : MethodName := ⟨RX11, "remains", "(I)Z"⟩
abbrev cX11_dealOut : ByteArray := prog_1_method_43_code
def yX11_dealOut : MethodName := ⟨RX11, "dealOut", "(II)V"⟩
abbrev cX11_foretold : ByteArray := prog_1_method_44_code
def yX11_foretold : MethodName := ⟨RX11, "foretold", "(IZ)I"⟩
abbrev cX11_unitsTogether : ByteArray := prog_1_method_45_code
def yX11_unitsTogether : MethodName := ⟨RX11, "unitsTogether", "(IZ)I"⟩
abbrev cX11_count : ByteArray := prog_1_method_46_code
def yX11_count : MethodName := ⟨RX11, "count", "(I)I"⟩
abbrev cX11_within : ByteArray := prog_1_method_47_code
def yX11_within : MethodName := ⟨RX11, "within", "(III)Z"⟩
abbrev cX11_usual : ByteArray := prog_1_method_48_code
def yX11_usual : MethodName := ⟨RX11, "usual", "(I)I"⟩
abbrev cX11_isDay : ByteArray := prog_1_method_49_code
def yX11_isDay : MethodName := ⟨RX11, "isDay", "(I)Z"⟩
abbrev cX11_isMonth : ByteArray := prog_1_method_50_code
def yX11_isMonth : MethodName := ⟨RX11, "isMonth", "(I)Z"⟩
abbrev cX11_isReason : ByteArray := prog_1_method_51_code
def yX11_isReason : MethodName := ⟨RX11, "isReason", "(I)Z"⟩
abbrev cX11_isWay : ByteArray := prog_1_method_52_code
def yX11_isWay : MethodName := ⟨RX11, "isWay", "(I)Z"⟩
def RX12 : String := "PetrolBoardModel"
def TX12 : u_T := fun k => match k with
  | 0 => ("PetrolBoardModel", "today", "I", false)
  | 1 => ("PetrolBoardModel", "holders", "I", false)
  | 2 => ("PetrolBoardModel", "notes", "I", false)
  | 3 => ("PetrolBoardModel", "sizeOf", "[I", true)
  | 4 => ("PetrolBoardModel", "townOf", "[I", true)
  | 5 => ("PetrolBoardModel", "seatsOf", "[I", true)
  | 6 => ("PetrolBoardModel", "bidOf", "[I", true)
  | 7 => ("PetrolBoardModel", "needOf", "[I", true)
  | 8 => ("PetrolBoardModel", "noteWho", "[I", true)
  | 9 => ("PetrolBoardModel", "noteClass", "[I", true)
  | 10 => ("PetrolBoardModel", "noteFrom", "[I", true)
  | 11 => ("PetrolBoardModel", "noteTold", "[I", true)
  | 12 => ("PetrolBoardModel", "noteGone", "[I", true)
  | 13 => ("PetrolBoardModel", "texts", "I", false)
  | 14 => ("PetrolBoardModel", "statements", "I", false)
  | 15 => ("PetrolBoardModel", "nodes", "I", false)
  | 16 => ("PetrolBoardModel", "textFirst", "[I", true)
  | 17 => ("PetrolBoardModel", "textMany", "[I", true)
  | 18 => ("PetrolBoardModel", "textMonth", "[I", true)
  | 19 => ("PetrolBoardModel", "textTold", "[I", true)
  | 20 => ("PetrolBoardModel", "stRule", "[I", true)
  | 21 => ("PetrolBoardModel", "stNumber", "[I", true)
  | 22 => ("PetrolBoardModel", "stEx", "[I", true)
  | 23 => ("PetrolBoardModel", "stCond", "[I", true)
  | 24 => ("PetrolBoardModel", "stFrom", "[I", true)
  | 25 => ("PetrolBoardModel", "stTo", "[I", true)
  | 26 => ("PetrolBoardModel", "nodeKind", "[I", true)
  | 27 => ("PetrolBoardModel", "nodeA", "[I", true)
  | 28 => ("PetrolBoardModel", "nodeB", "[I", true)
  | 29 => ("PetrolBoardModel", "result", "[J", true)
  | 30 => ("PetrolBoardModel", "tape", "[B", true)
  | 31 => ("PetrolBoardModel", "taped", "I", false)
  | 32 => ("PetrolBoardModel", "faultAt", "I", false)
  | 33 => ("PetrolBoardModel", "limit", "I", false)
  | 34 => ("PetrolBoardModel", "point", "I", false)
  | 35 => ("PetrolBoardModel", "from", "I", false)
  | 36 => ("PetrolBoardModel", "token", "I", false)
  | 37 => ("PetrolBoardModel", "sign", "I", false)
  | 38 => ("PetrolBoardModel", "value", "I", false)
  | 39 => ("PetrolBoardModel", "open", "I", false)
  | 40 => ("PetrolBoardModel", "got", "I", false)
  | 41 => ("PetrolBoardModel", "word", "J", false)
  | 42 => ("PetrolBoardModel", "isWrong", "Z", false)
  | 43 => ("PetrolBoardModel", "what", "[I", true)
  | 44 => ("PetrolBoardModel", "at", "[I", true)
  | 45 => ("PetrolBoardModel", "one", "[I", true)
  | 46 => ("PetrolBoardModel", "sort", "[I", true)
  | 47 => ("PetrolBoardModel", "deep", "I", false)
  | 48 => ("PetrolBoardModel", "asks", "[J", true)
  | 49 => ("PetrolBoardModel", "issued", "[I", true)
  | 50 => ("PetrolBoardModel", "books", "I", false)
  | 51 => ("PetrolBoardModel", "lentAll", "I", false)
  | 52 => ("PetrolBoardModel", "lentTo", "[I", true)
  | 53 => ("PetrolBoardModel", "wasIn", "[Z", true)
  | 54 => ("PetrolBoardModel", "stations", "I", false)
  | 55 => ("PetrolBoardModel", "pours", "I", false)
  | 56 => ("PetrolBoardModel", "comes", "I", false)
  | 57 => ("PetrolBoardModel", "pourAt", "[I", true)
  | 58 => ("PetrolBoardModel", "pourWho", "[I", true)
  | 59 => ("PetrolBoardModel", "pourCoupon", "[I", true)
  | 60 => ("PetrolBoardModel", "pourDay", "[I", true)
  | 61 => ("PetrolBoardModel", "pourTenths", "[I", true)
  | 62 => ("PetrolBoardModel", "pourOwner", "[I", true)
  | 63 => ("PetrolBoardModel", "pourJudged", "[I", true)
  | 64 => ("PetrolBoardModel", "pourCome", "[I", true)
  | 65 => ("PetrolBoardModel", "pourDyed", "[Z", true)
  | 66 => ("PetrolBoardModel", "givenMany", "[I", true)
  | 67 => ("PetrolBoardModel", "givenSum", "[I", true)
  | 68 => ("PetrolBoardModel", "given", "[I", true)
  | 69 => ("PetrolBoardModel", "givenCome", "[I", true)
  | 70 => ("PetrolBoardModel", "dipMany", "[I", true)
  | 71 => ("PetrolBoardModel", "dipTold", "[I", true)
  | 72 => ("PetrolBoardModel", "dipDay", "[I", true)
  | 73 => ("PetrolBoardModel", "dipCome", "[I", true)
  | 74 => ("PetrolBoardModel", "levels", "[I", true)
  | 75 => ("PetrolBoardModel", "ports", "I", false)
  | 76 => ("PetrolBoardModel", "loadsOf", "[I", true)
  | 77 => ("PetrolBoardModel", "wantOf", "[I", true)
  | 78 => ("PetrolBoardModel", "roadOf", "[I", true)
  | 79 => ("PetrolBoardModel", "room", "[I", true)
  | 80 => ("PetrolBoardModel", "miles", "[I", true)
  | 81 => ("PetrolBoardModel", "far", "[I", true)
  | 82 => ("PetrolBoardModel", "back", "[I", true)
  | 83 => ("PetrolBoardModel", "journeys", "I", false)
  | 84 => ("PetrolBoardModel", "jWho", "[I", true)
  | 85 => ("PetrolBoardModel", "jMiles", "[I", true)
  | 86 => ("PetrolBoardModel", "jPeople", "[I", true)
  | 87 => ("PetrolBoardModel", "jReason", "[I", true)
  | 88 => ("PetrolBoardModel", "jDay", "[I", true)
  | 89 => ("PetrolBoardModel", "jWay", "[I", true)
  | 90 => ("PetrolBoardModel", "jAsked", "[I", true)
  | 91 => ("PetrolBoardModel", "jGranted", "[I", true)
  | 92 => ("PetrolBoardModel", "jFirst", "[I", true)
  | 93 => ("PetrolBoardModel", "pool", "[I", true)
  | 94 => ("PetrolBoardModel", "deal", "[I", true)
  | _ => ("PetrolBoardModel", "isDealt", "[Z", true)
def tyX12 : Nat → FieldType := fun k => match k with
  | 0 => .int
  | 1 => .int
  | 2 => .int
  | 3 => .array .int
  | 4 => .array .int
  | 5 => .array .int
  | 6 => .array .int
  | 7 => .array .int
  | 8 => .array .int
  | 9 => .array .int
  | 10 => .array .int
  | 11 => .array .int
  | 12 => .array .int
  | 13 => .int
  | 14 => .int
  | 15 => .int
  | 16 => .array .int
  | 17 => .array .int
  | 18 => .array .int
  | 19 => .array .int
  | 20 => .array .int
  | 21 => .array .int
  | 22 => .array .int
  | 23 => .array .int
  | 24 => .array .int
  | 25 => .array .int
  | 26 => .array .int
  | 27 => .array .int
  | 28 => .array .int
  | 29 => .array .long
  | 30 => .array .byte
  | 31 => .int
  | 32 => .int
  | 33 => .int
  | 34 => .int
  | 35 => .int
  | 36 => .int
  | 37 => .int
  | 38 => .int
  | 39 => .int
  | 40 => .int
  | 41 => .long
  | 42 => .boolean
  | 43 => .array .int
  | 44 => .array .int
  | 45 => .array .int
  | 46 => .array .int
  | 47 => .int
  | 48 => .array .long
  | 49 => .array .int
  | 50 => .int
  | 51 => .int
  | 52 => .array .int
  | 53 => .array .boolean
  | 54 => .int
  | 55 => .int
  | 56 => .int
  | 57 => .array .int
  | 58 => .array .int
  | 59 => .array .int
  | 60 => .array .int
  | 61 => .array .int
  | 62 => .array .int
  | 63 => .array .int
  | 64 => .array .int
  | 65 => .array .boolean
  | 66 => .array .int
  | 67 => .array .int
  | 68 => .array .int
  | 69 => .array .int
  | 70 => .array .int
  | 71 => .array .int
  | 72 => .array .int
  | 73 => .array .int
  | 74 => .array .int
  | 75 => .int
  | 76 => .array .int
  | 77 => .array .int
  | 78 => .array .int
  | 79 => .array .int
  | 80 => .array .int
  | 81 => .array .int
  | 82 => .array .int
  | 83 => .int
  | 84 => .array .int
  | 85 => .array .int
  | 86 => .array .int
  | 87 => .array .int
  | 88 => .array .int
  | 89 => .array .int
  | 90 => .array .int
  | 91 => .array .int
  | 92 => .array .int
  | 93 => .array .int
  | 94 => .array .int
  | _ => .array .boolean
abbrev wsX120 : List Cond := u_ws RX12 TX12 96
theorem nmX12 : ∀ a, a < 96 → ∀ b, b < 96 → a ≠ b → (TX12 a).2.1 ≠ (TX12 b).2.1 := by decide +kernel
theorem tyX12_ok : ∀ k, k < 96 → parseFieldDescriptor (TX12 k).2.2.1 = some (tyX12 k) := by decide +kernel
abbrev cX12_init : ByteArray := prog_14_method_1_code
def yX12_init : MethodName := ⟨RX12, "<init>", "()V"⟩
abbrev cX12_within : ByteArray := prog_14_method_3_code
def yX12_within : MethodName := ⟨RX12, "within", "(III)Z"⟩
abbrev cX12_abs : ByteArray := prog_14_method_4_code
def yX12_abs : MethodName := ⟨RX12, "abs", "(I)I"⟩
abbrev cX12_min : ByteArray := prog_14_method_5_code
def yX12_min : MethodName := ⟨RX12, "min", "(II)I"⟩
abbrev cX12_isDay : ByteArray := prog_14_method_7_code
def yX12_isDay : MethodName := ⟨RX12, "isDay", "(I)Z"⟩
abbrev cX12_isMonth : ByteArray := prog_14_method_8_code
def yX12_isMonth : MethodName := ⟨RX12, "isMonth", "(I)Z"⟩
abbrev cX12_isHolder : ByteArray := prog_14_method_9_code
def yX12_isHolder : MethodName := ⟨RX12, "isHolder", "(I)Z"⟩
abbrev cX12_day : ByteArray := prog_14_method_10_code
def yX12_day : MethodName := ⟨RX12, "day", "(I)Z"⟩
abbrev cX12_holder : ByteArray := prog_14_method_11_code
def yX12_holder : MethodName := ⟨RX12, "holder", "(IIIII)I"⟩
abbrev cX12_note : ByteArray := prog_14_method_12_code
def yX12_note : MethodName := ⟨RX12, "note", "(III)I"⟩
abbrev cX12_undo : ByteArray := prog_14_method_13_code
def yX12_undo : MethodName := ⟨RX12, "undo", "(I)Z"⟩
abbrev cX12_kindOn : ByteArray := prog_14_method_14_code
def yX12_kindOn : MethodName := ⟨RX12, "kindOn", "(III)I"⟩
abbrev cX12_classOf : ByteArray := prog_14_method_15_code
def yX12_classOf : MethodName := ⟨RX12, "classOf", "(III)I"⟩
abbrev cX12_feed : ByteArray := prog_14_method_16_code
def yX12_feed : MethodName := ⟨RX12, "feed", "(IIIII)I"⟩
abbrev cX12_here : ByteArray := prog_14_method_17_code
def yX12_here : MethodName := ⟨RX12, "here", "()I"⟩
abbrev cX12_next : ByteArray := prog_14_method_18_code
def yX12_next : MethodName := ⟨RX12, "next", "()V"⟩
abbrev cX12_isSignByte : ByteArray := prog_14_method_19_code
def yX12_isSignByte : MethodName := ⟨RX12, "isSignByte", "(I)Z"⟩
abbrev cX12_errs : ByteArray := prog_14_method_20_code
def yX12_errs : MethodName := ⟨RX12, "errs", "()V"⟩
abbrev cX12_isWord : ByteArray := prog_14_method_21_code
def yX12_isWord : MethodName := ⟨RX12, "isWord", "(J)Z"⟩
abbrev cX12_isSign : ByteArray := prog_14_method_22_code
def yX12_isSign : MethodName := ⟨RX12, "isSign", "(I)Z"⟩
abbrev cX12_must : ByteArray := prog_14_method_23_code
def yX12_must : MethodName := ⟨RX12, "must", "(I)V"⟩
abbrev cX12_ruleOf : ByteArray := prog_14_method_24_code
def yX12_ruleOf : MethodName := ⟨RX12, "ruleOf", "(J)I"⟩
abbrev cX12_nameOf : ByteArray := prog_14_method_25_code
def yX12_nameOf : MethodName := ⟨RX12, "nameOf", "(J)I"⟩
abbrev cX12_node : ByteArray := prog_14_method_26_code
def yX12_node : MethodName := ⟨RX12, "node", "(III)I"⟩
abbrev cX12_begin : ByteArray := prog_14_method_27_code
def yX12_begin : MethodName := ⟨RX12, "begin", "(I)V"⟩
abbrev cX12_ends : ByteArray := prog_14_method_28_code
def yX12_ends : MethodName := ⟨RX12, "ends", "(I)V"⟩
abbrev cX12_opens : ByteArray := prog_14_method_29_code
def yX12_opens : MethodName := ⟨RX12, "opens", "()V"⟩
abbrev cX12_parse : ByteArray := prog_14_method_30_code
def yX12_parse : MethodName := ⟨RX12, "parse", "(I)I"⟩
abbrev cX12_sums : ByteArray := prog_14_method_31_code
def yX12_sums : MethodName := ⟨RX12, "sums", "(IZ)V"⟩
abbrev cX12_atom : ByteArray := prog_14_method_32_code
def yX12_atom : MethodName := ⟨RX12, "atom", "(I)V"⟩
abbrev cX12_chain : ByteArray := prog_14_method_33_code
def yX12_chain : MethodName := ⟨RX12, "chain", "(IZ)V"⟩
abbrev cX12_test : ByteArray := prog_14_method_34_code
def yX12_test : MethodName := ⟨RX12, "test", "(I)V"⟩
abbrev cX12_statement : ByteArray := prog_14_method_35_code
def yX12_statement : MethodName := ⟨RX12, "statement", "(I)V"⟩
abbrev cX12_orders : ByteArray := prog_14_method_36_code
def yX12_orders : MethodName := ⟨RX12, "orders", "(II)I"⟩
abbrev cX12_fault : ByteArray := prog_14_method_37_code
def yX12_fault : MethodName := ⟨RX12, "fault", "()I"⟩
abbrev cX12_inForce : ByteArray := prog_14_method_38_code
def yX12_inForce : MethodName := ⟨RX12, "inForce", "(II)I"⟩
abbrev cX12_number : ByteArray := prog_14_method_39_code
def yX12_number : MethodName := ⟨RX12, "number", "(III)I"⟩
abbrev cX12_rule : ByteArray := prog_14_method_40_code
def yX12_rule : MethodName := ⟨RX12, "rule", "(III)I"⟩
abbrev cX12_held : ByteArray := prog_14_method_41_code
def yX12_held : MethodName := ⟨RX12, "held", "(J)J"⟩
abbrev cX12_works : ByteArray := prog_14_method_42_code
def yX12_works : MethodName := ⟨RX12, "works", "(I)V"⟩
abbrev cX12_holds : ByteArray := prog_14_method_43_code
def yX12_holds : MethodName := ⟨RX12, "holds", "(I)Z"⟩
abbrev cX12_first : ByteArray := prog_14_method_44_code
def yX12_first : MethodName := ⟨RX12, "first", "(II)I"⟩
abbrev cX12_asked : ByteArray := prog_14_method_45_code
def yX12_asked : MethodName := ⟨RX12, "asked", "(IIIIII)V"⟩
abbrev cX12_unitsOf : ByteArray := prog_14_method_46_code
def yX12_unitsOf : MethodName := ⟨RX12, "unitsOf", "(III)I"⟩
abbrev cX12_units : ByteArray := prog_14_method_47_code
def yX12_units : MethodName := ⟨RX12, "units", "(III)I"⟩
abbrev cX12_isCoupon : ByteArray := prog_14_method_48_code
def yX12_isCoupon : MethodName := ⟨RX12, "isCoupon", "(I)Z"⟩
abbrev cX12_heldBy : ByteArray := prog_14_method_49_code
def yX12_heldBy : MethodName := ⟨RX12, "heldBy", "(I)I"⟩
abbrev cX12_issue : ByteArray := prog_14_method_50_code
def yX12_issue : MethodName := ⟨RX12, "issue", "(II)I"⟩
abbrev cX12_lend : ByteArray := prog_14_method_51_code
def yX12_lend : MethodName := ⟨RX12, "lend", "(II)Z"⟩
abbrev cX12_owner : ByteArray := prog_14_method_52_code
def yX12_owner : MethodName := ⟨RX12, "owner", "(I)I"⟩
abbrev cX12_isStation : ByteArray := prog_14_method_53_code
def yX12_isStation : MethodName := ⟨RX12, "isStation", "(I)Z"⟩
abbrev cX12_station : ByteArray := prog_14_method_54_code
def yX12_station : MethodName := ⟨RX12, "station", "()I"⟩
abbrev cX12_pour : ByteArray := prog_14_method_55_code
def yX12_pour : MethodName := ⟨RX12, "pour", "(III)I"⟩
abbrev cX12_judges : ByteArray := prog_14_method_56_code
def yX12_judges : MethodName := ⟨RX12, "judges", "(I)I"⟩
abbrev cX12_handIn : ByteArray := prog_14_method_57_code
def yX12_handIn : MethodName := ⟨RX12, "handIn", "(I)I"⟩
abbrev cX12_poured : ByteArray := prog_14_method_58_code
def yX12_poured : MethodName := ⟨RX12, "poured", "(II)I"⟩
abbrev cX12_found : ByteArray := prog_14_method_59_code
def yX12_found : MethodName := ⟨RX12, "found", "(I)I"⟩
abbrev cX12_deliver : ByteArray := prog_14_method_60_code
def yX12_deliver : MethodName := ⟨RX12, "deliver", "(II)I"⟩
abbrev cX12_dip : ByteArray := prog_14_method_61_code
def yX12_dip : MethodName := ⟨RX12, "dip", "(II)I"⟩
abbrev cX12_inOf : ByteArray := prog_14_method_62_code
def yX12_inOf : MethodName := ⟨RX12, "inOf", "(II)J"⟩
abbrev cX12_in : ByteArray := prog_14_method_63_code
def yX12_in : MethodName := ⟨RX12, "in", "(II)I"⟩
abbrev cX12_lowOf : ByteArray := prog_14_method_64_code
def yX12_lowOf : MethodName := ⟨RX12, "lowOf", "(I)J"⟩
abbrev cX12_highOf : ByteArray := prog_14_method_65_code
def yX12_highOf : MethodName := ⟨RX12, "highOf", "(I)J"⟩
abbrev cX12_sums_ : ByteArray := prog_14_method_66_code
def yX12_sums_ : MethodName := ⟨RX12, "sums", "(IIII)J"⟩
abbrev cX12_level : ByteArray := prog_14_method_67_code
def yX12_level : MethodName := ⟨RX12, "level", "(II)Z"⟩
abbrev cX12_judged : ByteArray := prog_14_method_68_code
def yX12_judged : MethodName := ⟨RX12, "judged", "(III)J"⟩
abbrev cX12_port : ByteArray := prog_14_method_69_code
def yX12_port : MethodName := ⟨RX12, "port", "(I)I"⟩
abbrev cX12_want : ByteArray := prog_14_method_70_code
def yX12_want : MethodName := ⟨RX12, "want", "(II)Z"⟩
abbrev cX12_road : ByteArray := prog_14_method_71_code
def yX12_road : MethodName := ⟨RX12, "road", "(III)Z"⟩
abbrev cX12_edge : ByteArray := prog_14_method_72_code
def yX12_edge : MethodName := ⟨RX12, "edge", "(IIII)V"⟩
abbrev cX12_finds : ByteArray := prog_14_method_73_code
def yX12_finds : MethodName := ⟨RX12, "finds", "()Z"⟩
abbrev cX12_flow : ByteArray := prog_14_method_74_code
def yX12_flow : MethodName := ⟨RX12, "flow", "(II)I"⟩
abbrev cX12_granted : ByteArray := prog_14_method_75_code
def yX12_granted : MethodName := ⟨RX12, "granted", "(I)I"⟩
abbrev cX12_ask : ByteArray := prog_14_method_76_code
def yX12_ask : MethodName := ⟨RX12, "ask", "(IIIIII)I"⟩
abbrev cX12_appeal : ByteArray := prog_14_method_77_code
def yX12_appeal : MethodName := ⟨RX12, "appeal", "(II)I"⟩
abbrev cX12_isLike : ByteArray := prog_14_method_78_code
def yX12_isLike : MethodName := ⟨RX12, "isLike", "(II)Z"⟩
abbrev cX12_journey : ByteArray := prog_14_method_79_code
def yX12_journey : MethodName := ⟨RX12, "journey", "(II)I"⟩
abbrev cX12_bits : ByteArray := prog_14_method_80_code
def yX12_bits : MethodName := ⟨RX12, "bits", "(I)I"⟩
abbrev cX12_pool : ByteArray := prog_14_method_81_code
def yX12_pool : MethodName := ⟨RX12, "pool", "(III)I"⟩
abbrev cX12_deals : ByteArray := prog_14_method_82_code
def yX12_deals : MethodName := ⟨RX12, "deals", "(II)V"⟩
abbrev cX12_other : ByteArray := prog_14_method_83_code
def yX12_other : MethodName := ⟨RX12, "other", "(IIII)I"⟩
abbrev cX12_stays : ByteArray := prog_14_method_84_code
def yX12_stays : MethodName := ⟨RX12, "stays", "(II)I"⟩
abbrev cX12_foretold : ByteArray := prog_14_method_85_code
def yX12_foretold : MethodName := ⟨RX12, "foretold", "(IZ)I"⟩
abbrev cX12_count : ByteArray := prog_14_method_86_code
def yX12_count : MethodName := ⟨RX12, "count", "(I)I"⟩
def RJx145de : String := "java/io/Serializable"
def TJx145de : u_T := fun k => match k with
  | _ => ("", "", "", false)
def tyJx145de : Nat → FieldType := fun k => match k with
  | _ => .int
abbrev wsJx145de0 : List Cond := u_ws RJx145de TJx145de 0
theorem nmJx145de : ∀ a, a < 0 → ∀ b, b < 0 → a ≠ b → (TJx145de a).2.1 ≠ (TJx145de b).2.1 := by decide +kernel
theorem tyJx145de_ok : ∀ k, k < 0 → parseFieldDescriptor (TJx145de k).2.2.1 = some (tyJx145de k) := by decide +kernel
def RJx9f9b0 : String := "java/lang/CharSequence"
def TJx9f9b0 : u_T := fun k => match k with
  | _ => ("", "", "", false)
def tyJx9f9b0 : Nat → FieldType := fun k => match k with
  | _ => .int
abbrev wsJx9f9b00 : List Cond := u_ws RJx9f9b0 TJx9f9b0 0
theorem nmJx9f9b0 : ∀ a, a < 0 → ∀ b, b < 0 → a ≠ b → (TJx9f9b0 a).2.1 ≠ (TJx9f9b0 b).2.1 := by decide +kernel
theorem tyJx9f9b0_ok : ∀ k, k < 0 → parseFieldDescriptor (TJx9f9b0 k).2.2.1 = some (tyJx9f9b0 k) := by decide +kernel
def RJx8e188 : String := "java/lang/Cloneable"
def TJx8e188 : u_T := fun k => match k with
  | _ => ("", "", "", false)
def tyJx8e188 : Nat → FieldType := fun k => match k with
  | _ => .int
abbrev wsJx8e1880 : List Cond := u_ws RJx8e188 TJx8e188 0
theorem nmJx8e188 : ∀ a, a < 0 → ∀ b, b < 0 → a ≠ b → (TJx8e188 a).2.1 ≠ (TJx8e188 b).2.1 := by decide +kernel
theorem tyJx8e188_ok : ∀ k, k < 0 → parseFieldDescriptor (TJx8e188 k).2.2.1 = some (tyJx8e188 k) := by decide +kernel
def RJxb160c : String := "java/lang/Comparable"
def TJxb160c : u_T := fun k => match k with
  | _ => ("", "", "", false)
def tyJxb160c : Nat → FieldType := fun k => match k with
  | _ => .int
abbrev wsJxb160c0 : List Cond := u_ws RJxb160c TJxb160c 0
theorem nmJxb160c : ∀ a, a < 0 → ∀ b, b < 0 → a ≠ b → (TJxb160c a).2.1 ≠ (TJxb160c b).2.1 := by decide +kernel
theorem tyJxb160c_ok : ∀ k, k < 0 → parseFieldDescriptor (TJxb160c k).2.2.1 = some (tyJxb160c k) := by decide +kernel
def RJ6 : String := "java/lang/Integer"
def TJ6 : u_T := fun k => match k with
  | _ => ("", "", "", false)
def tyJ6 : Nat → FieldType := fun k => match k with
  | _ => .int
abbrev wsJ60 : List Cond := u_ws RJ6 TJ6 0
theorem nmJ6 : ∀ a, a < 0 → ∀ b, b < 0 → a ≠ b → (TJ6 a).2.1 ≠ (TJ6 b).2.1 := by decide +kernel
theorem tyJ6_ok : ∀ k, k < 0 → parseFieldDescriptor (TJ6 k).2.2.1 = some (tyJ6 k) := by decide +kernel
abbrev cJ6_bitCount_0f7a4 : ByteArray := prog_16_method_49_code
def yJ6_bitCount_0f7a4 : MethodName := ⟨RJ6, "bitCount", "(I)I"⟩
def RJ9 : String := "java/lang/Math"
def TJ9 : u_T := fun k => match k with
  | _ => ("", "", "", false)
def tyJ9 : Nat → FieldType := fun k => match k with
  | _ => .int
abbrev wsJ90 : List Cond := u_ws RJ9 TJ9 0
theorem nmJ9 : ∀ a, a < 0 → ∀ b, b < 0 → a ≠ b → (TJ9 a).2.1 ≠ (TJ9 b).2.1 := by decide +kernel
theorem tyJ9_ok : ∀ k, k < 0 → parseFieldDescriptor (TJ9 k).2.2.1 = some (tyJ9 k) := by decide +kernel
abbrev cJ9_abs_0f7a4 : ByteArray := prog_17_method_59_code
def yJ9_abs_0f7a4 : MethodName := ⟨RJ9, "abs", "(I)I"⟩
abbrev cJ9_max_7cf53 : ByteArray := prog_17_method_65_code
def yJ9_max_7cf53 : MethodName := ⟨RJ9, "max", "(II)I"⟩
abbrev cJ9_max_f86c9 : ByteArray := prog_17_method_66_code
def yJ9_max_f86c9 : MethodName := ⟨RJ9, "max", "(JJ)J"⟩
abbrev cJ9_min_7cf53 : ByteArray := prog_17_method_69_code
def yJ9_min_7cf53 : MethodName := ⟨RJ9, "min", "(II)I"⟩
abbrev cJ9_min_f86c9 : ByteArray := prog_17_method_70_code
def yJ9_min_f86c9 : MethodName := ⟨RJ9, "min", "(JJ)J"⟩
def RJ0 : String := "java/lang/String"
def TJ0 : u_T := fun k => match k with
  | _ => ("", "", "", false)
def tyJ0 : Nat → FieldType := fun k => match k with
  | _ => .int
abbrev wsJ00 : List Cond := u_ws RJ0 TJ0 0
theorem nmJ0 : ∀ a, a < 0 → ∀ b, b < 0 → a ≠ b → (TJ0 a).2.1 ≠ (TJ0 b).2.1 := by decide +kernel
theorem tyJ0_ok : ∀ k, k < 0 → parseFieldDescriptor (TJ0 k).2.2.1 = some (tyJ0 k) := by decide +kernel
abbrev cJ0_length_8abf5 : ByteArray := prog_18_method_54_code
def yJ0_length_8abf5 : MethodName := ⟨RJ0, "length", "()I"⟩
abbrev cJ0_charAt_5068e : ByteArray := prog_18_method_56_code
def yJ0_charAt_5068e : MethodName := ⟨RJ0, "charAt", "(I)C"⟩
abbrev cJ0_coder_7d493 : ByteArray := prog_18_method_152_code
def yJ0_coder_7d493 : MethodName := ⟨RJ0, "coder", "()B"⟩
abbrev cJ0_isLatin1_aae02 : ByteArray := prog_18_method_154_code
def yJ0_isLatin1_aae02 : MethodName := ⟨RJ0, "isLatin1", "()Z"⟩
abbrev cJ0_checkIndex_df160 : ByteArray := prog_18_method_155_code
def yJ0_checkIndex_df160 : MethodName := ⟨RJ0, "checkIndex", "(II)V"⟩
def RJ1 : String := "java/lang/StringLatin1"
def TJ1 : u_T := fun k => match k with
  | _ => ("", "", "", false)
def tyJ1 : Nat → FieldType := fun k => match k with
  | _ => .int
abbrev wsJ10 : List Cond := u_ws RJ1 TJ1 0
theorem nmJ1 : ∀ a, a < 0 → ∀ b, b < 0 → a ≠ b → (TJ1 a).2.1 ≠ (TJ1 b).2.1 := by decide +kernel
theorem tyJ1_ok : ∀ k, k < 0 → parseFieldDescriptor (TJ1 k).2.2.1 = some (tyJ1 k) := by decide +kernel
abbrev cJ1_charAt_3b067 : ByteArray := prog_19_method_2_code
def yJ1_charAt_3b067 : MethodName := ⟨RJ1, "charAt", "([BI)C"⟩
def RJ2 : String := "java/lang/StringUTF16"
def TJ2 : u_T := fun k => match k with
  | _ => ("", "", "", false)
def tyJ2 : Nat → FieldType := fun k => match k with
  | _ => .int
abbrev wsJ20 : List Cond := u_ws RJ2 TJ2 0
theorem nmJ2 : ∀ a, a < 0 → ∀ b, b < 0 → a ≠ b → (TJ2 a).2.1 ≠ (TJ2 b).2.1 := by decide +kernel
theorem tyJ2_ok : ∀ k, k < 0 → parseFieldDescriptor (TJ2 k).2.2.1 = some (tyJ2 k) := by decide +kernel
abbrev cJ2_getChar_3b067 : ByteArray := prog_20_method_5_code
def yJ2_getChar_3b067 : MethodName := ⟨RJ2, "getChar", "([BI)C"⟩
abbrev cJ2_length_9d52b : ByteArray := prog_20_method_6_code
def yJ2_length_9d52b : MethodName := ⟨RJ2, "length", "([B)I"⟩
abbrev cJ2_charAt_3b067 : ByteArray := prog_20_method_83_code
def yJ2_charAt_3b067 : MethodName := ⟨RJ2, "charAt", "([BI)C"⟩
abbrev cJ2_checkIndex_2214a : ByteArray := prog_20_method_91_code
def yJ2_checkIndex_2214a : MethodName := ⟨RJ2, "checkIndex", "(I[B)V"⟩
def RJ10 : String := "java/lang/System"
def TJ10 : u_T := fun k => match k with
  | _ => ("", "", "", false)
def tyJ10 : Nat → FieldType := fun k => match k with
  | _ => .int
abbrev wsJ100 : List Cond := u_ws RJ10 TJ10 0
theorem nmJ10 : ∀ a, a < 0 → ∀ b, b < 0 → a ≠ b → (TJ10 a).2.1 ≠ (TJ10 b).2.1 := by decide +kernel
theorem tyJ10_ok : ∀ k, k < 0 → parseFieldDescriptor (TJ10 k).2.2.1 = some (tyJ10 k) := by decide +kernel
def RJxfd54e : String := "java/lang/constant/Constable"
def TJxfd54e : u_T := fun k => match k with
  | _ => ("", "", "", false)
def tyJxfd54e : Nat → FieldType := fun k => match k with
  | _ => .int
abbrev wsJxfd54e0 : List Cond := u_ws RJxfd54e TJxfd54e 0
theorem nmJxfd54e : ∀ a, a < 0 → ∀ b, b < 0 → a ≠ b → (TJxfd54e a).2.1 ≠ (TJxfd54e b).2.1 := by decide +kernel
theorem tyJxfd54e_ok : ∀ k, k < 0 → parseFieldDescriptor (TJxfd54e k).2.2.1 = some (tyJxfd54e k) := by decide +kernel
def RJx3cf43 : String := "java/lang/constant/ConstantDesc"
def TJx3cf43 : u_T := fun k => match k with
  | _ => ("", "", "", false)
def tyJx3cf43 : Nat → FieldType := fun k => match k with
  | _ => .int
abbrev wsJx3cf430 : List Cond := u_ws RJx3cf43 TJx3cf43 0
theorem nmJx3cf43 : ∀ a, a < 0 → ∀ b, b < 0 → a ≠ b → (TJx3cf43 a).2.1 ≠ (TJx3cf43 b).2.1 := by decide +kernel
theorem tyJx3cf43_ok : ∀ k, k < 0 → parseFieldDescriptor (TJx3cf43 k).2.2.1 = some (tyJx3cf43 k) := by decide +kernel
def RJ7 : String := "java/util/Arrays"
def TJ7 : u_T := fun k => match k with
  | _ => ("", "", "", false)
def tyJ7 : Nat → FieldType := fun k => match k with
  | _ => .int
abbrev wsJ70 : List Cond := u_ws RJ7 TJ7 0
theorem nmJ7 : ∀ a, a < 0 → ∀ b, b < 0 → a ≠ b → (TJ7 a).2.1 ≠ (TJ7 b).2.1 := by decide +kernel
theorem tyJ7_ok : ∀ k, k < 0 → parseFieldDescriptor (TJ7 k).2.2.1 = some (tyJ7 k) := by decide +kernel
abbrev cJ7_fill_53178 : ByteArray := prog_22_method_103_code
def yJ7_fill_53178 : MethodName := ⟨RJ7, "fill", "([II)V"⟩
abbrev cJ7_copyOf_59c91 : ByteArray := prog_22_method_123_code
def yJ7_copyOf_59c91 : MethodName := ⟨RJ7, "copyOf", "([II)[I"⟩
def RJ3 : String := "jdk/internal/util/Preconditions"
def TJ3 : u_T := fun k => match k with
  | _ => ("", "", "", false)
def tyJ3 : Nat → FieldType := fun k => match k with
  | _ => .int
abbrev wsJ30 : List Cond := u_ws RJ3 TJ3 0
theorem nmJ3 : ∀ a, a < 0 → ∀ b, b < 0 → a ≠ b → (TJ3 a).2.1 ≠ (TJ3 b).2.1 := by decide +kernel
theorem tyJ3_ok : ∀ k, k < 0 → parseFieldDescriptor (TJ3 k).2.2.1 = some (tyJ3 k) := by decide +kernel
abbrev cJ3_checkIndex_8e157 : ByteArray := prog_23_method_11_code
def yJ3_checkIndex_8e157 : MethodName := ⟨RJ3, "checkIndex", "(IILjava/util/function/BiFunction;)I"⟩
def RL : String := "PetrolBoardLaw"
def wsJ7_fill_53178 : List Cond := .code yJ7_fill_53178 cJ7_fill_53178 4 none :: ([])
def wsX0_init : List Cond := .code yX0_init cX0_init 1 none :: ([.methodLink RX0 3 objectInit, .instanceMethod objectInit, .code objectInit ⟨#[0xb1]⟩ 1 none, .arrayClass .int, .fieldLink RX0 9 "PetrolBoard$Coupons" "issued" "[I", .fieldLink RX0 15 "PetrolBoard$Coupons" "lent" "[I", .fieldLink RX0 18 "PetrolBoard$Coupons" "lentTo" "[I", .methodLink RX0 21 yJ7_fill_53178, .static yJ7_fill_53178, .initialized RJ7, .code yJ7_fill_53178 cJ7_fill_53178 4 none] ++ wsX00)
def wsX0_holderOf : List Cond := .code yX0_holderOf cX0_holderOf 1 (some .int) :: ([])
def wsX0_monthOf : List Cond := .code yX0_monthOf cX0_monthOf 1 (some .int) :: ([])
def wsX0_isIssued : List Cond := .code yX0_isIssued cX0_isIssued 4 (some .boolean) :: ([.fieldLink RX0 9 "PetrolBoard$Coupons" "issued" "[I"] ++ wsX00)
def wsX0_add : List Cond := .code yX0_add cX0_add 5 (some .int) :: ([.fieldLink RX0 9 "PetrolBoard$Coupons" "issued" "[I", .fieldLink RX0 27 "PetrolBoard$Coupons" "books" "I"] ++ wsX00)
def wsX0_has : List Cond := .code yX0_has cX0_has 3 (some .boolean) :: ([.fieldLink RX0 9 "PetrolBoard$Coupons" "issued" "[I"] ++ wsX00)
def wsX0_lentAs : List Cond := .code yX0_lentAs cX0_lentAs 3 (some .int) :: ([.fieldLink RX0 31 "PetrolBoard$Coupons" "lentNumber" "I", .fieldLink RX0 15 "PetrolBoard$Coupons" "lent" "[I"] ++ wsX00)
def wsX0_isLent : List Cond := .code yX0_isLent cX0_isLent 2 (some .boolean) :: ([.methodLink RX0 34 yX0_lentAs, .instanceMethod yX0_lentAs, .selects RX0 yX0_lentAs yX0_lentAs, .initialized RX0, .code yX0_lentAs cX0_lentAs 3 (some .int), .fieldLink RX0 31 "PetrolBoard$Coupons" "lentNumber" "I", .fieldLink RX0 15 "PetrolBoard$Coupons" "lent" "[I"] ++ wsX00)
def wsX0_lentOfBook : List Cond := .code yX0_lentOfBook cX0_lentOfBook 4 (some .int) :: ([.fieldLink RX0 31 "PetrolBoard$Coupons" "lentNumber" "I", .fieldLink RX0 15 "PetrolBoard$Coupons" "lent" "[I"] ++ wsX00)
def wsX0_addLent : List Cond := .code yX0_addLent cX0_addLent 3 (some .boolean) :: ([.fieldLink RX0 31 "PetrolBoard$Coupons" "lentNumber" "I", .fieldLink RX0 15 "PetrolBoard$Coupons" "lent" "[I", .fieldLink RX0 18 "PetrolBoard$Coupons" "lentTo" "[I"] ++ wsX00)
def wsX0_ownerOf : List Cond := .code yX0_ownerOf cX0_ownerOf 3 (some .int) :: ([.fieldLink RX0 18 "PetrolBoard$Coupons" "lentTo" "[I", .methodLink RX0 38 yX0_has, .instanceMethod yX0_has, .selects RX0 yX0_has yX0_has, .initialized RX0, .code yX0_has cX0_has 3 (some .boolean), .fieldLink RX0 9 "PetrolBoard$Coupons" "issued" "[I", .methodLink RX0 34 yX0_lentAs, .instanceMethod yX0_lentAs, .selects RX0 yX0_lentAs yX0_lentAs, .code yX0_lentAs cX0_lentAs 3 (some .int), .fieldLink RX0 31 "PetrolBoard$Coupons" "lentNumber" "I", .fieldLink RX0 15 "PetrolBoard$Coupons" "lent" "[I", .methodLink RX0 42 yX0_holderOf, .static yX0_holderOf, .code yX0_holderOf cX0_holderOf 1 (some .int)] ++ wsX00)
def wsX1_init : List Cond := .code yX1_init cX1_init 1 none :: ([.methodLink RX1 3 objectInit, .instanceMethod objectInit, .code objectInit ⟨#[0xb1]⟩ 1 none, .arrayClass .int, .fieldLink RX1 9 "PetrolBoard$Deal" "units" "[I", .fieldLink RX1 15 "PetrolBoard$Deal" "served" "[I"] ++ wsX10)
def wsX1_clear : List Cond := .code yX1_clear cX1_clear 1 none :: ([.fieldLink RX1 18 "PetrolBoard$Deal" "number" "I"] ++ wsX10)
def wsX1_put : List Cond := .code yX1_put cX1_put 2 none :: ([.fieldLink RX1 18 "PetrolBoard$Deal" "number" "I", .fieldLink RX1 9 "PetrolBoard$Deal" "units" "[I"] ++ wsX10)
def wsX1_unitsOf : List Cond := .code yX1_unitsOf cX1_unitsOf 2 (some .int) :: ([.fieldLink RX1 18 "PetrolBoard$Deal" "number" "I", .fieldLink RX1 9 "PetrolBoard$Deal" "units" "[I"] ++ wsX10)
def wsX1_together : List Cond := .code yX1_together cX1_together 3 (some .int) :: ([.fieldLink RX1 18 "PetrolBoard$Deal" "number" "I", .fieldLink RX1 9 "PetrolBoard$Deal" "units" "[I"] ++ wsX10)
def wsX1_alike : List Cond := .code yX1_alike cX1_alike 3 none :: ([.fieldLink RX1 18 "PetrolBoard$Deal" "number" "I", .fieldLink RX1 9 "PetrolBoard$Deal" "units" "[I", .methodLink RX1 22 yX1_together, .instanceMethod yX1_together, .selects RX1 yX1_together yX1_together, .initialized RX1, .code yX1_together cX1_together 3 (some .int)] ++ wsX10)
def wsX2_has : List Cond := .code yX2_has cX2_has 2 (some .boolean) :: ([.fieldLink RX2 42 "PetrolBoard$Holders" "number" "I"] ++ wsX20)
def wsX1_bestBidder : List Cond := .code yX1_bestBidder cX1_bestBidder 4 (some .int) :: ([.fieldLink RX1 18 "PetrolBoard$Deal" "number" "I", .fieldLink RX1 15 "PetrolBoard$Deal" "served" "[I", .fieldLink RX1 51 "PetrolBoard$Holders" "bid" "[I", .methodLink RX1 47 yX2_has, .instanceMethod yX2_has, .selects RX2 yX2_has yX2_has, .initialized RX2, .code yX2_has cX2_has 2 (some .boolean), .fieldLink RX2 42 "PetrolBoard$Holders" "number" "I"] ++ wsX10 ++ wsX20)
def wsX1_sell_r1 : List Cond := [Cond.fieldLink RX1 15 "PetrolBoard$Deal" "served" "[I", Cond.fieldLink RX1 18 "PetrolBoard$Deal" "number" "I", Cond.fieldLink RX1 9 "PetrolBoard$Deal" "units" "[I", Cond.fieldLink RX1 36 "PetrolBoard$Holders" "need" "[I", Cond.methodLink RX1 41 Lib.Math.min.name, Cond.static Lib.Math.min.name, Cond.initialized "java/lang/Math", Cond.code Lib.Math.min.name Lib.Math.min.code 2 (some .int), Cond.methodLink RX1 22 yX1_together, Cond.instanceMethod yX1_together, Cond.selects RX1 yX1_together yX1_together, Cond.initialized RX1, Cond.code yX1_together cX1_together 3 (some .int), Cond.methodLink RX1 26 yJ7_fill_53178, Cond.static yJ7_fill_53178, Cond.initialized RJ7, Cond.code yJ7_fill_53178 cJ7_fill_53178 4 none, Cond.methodLink RX1 32 yX1_bestBidder, Cond.instanceMethod yX1_bestBidder, Cond.selects RX1 yX1_bestBidder yX1_bestBidder, Cond.code yX1_bestBidder cX1_bestBidder 4 (some .int), Cond.fieldLink RX1 51 "PetrolBoard$Holders" "bid" "[I", Cond.methodLink RX1 47 yX2_has, Cond.instanceMethod yX2_has]
def wsX1_sell_r2 : List Cond := [Cond.selects RX2 yX2_has yX2_has, Cond.initialized RX2, Cond.code yX2_has cX2_has 2 (some .boolean), Cond.fieldLink RX2 42 "PetrolBoard$Holders" "number" "I"]
def wsX1_sell : List Cond := .code yX1_sell cX1_sell 5 none :: ((wsX1_sell_r1 ++ wsX1_sell_r2) ++ wsX10 ++ wsX20)
def wsX2_init : List Cond := .code yX2_init cX2_init 1 none :: ([.methodLink RX2 3 objectInit, .instanceMethod objectInit, .code objectInit ⟨#[0xb1]⟩ 1 none, .arrayClass .int, .fieldLink RX2 9 "PetrolBoard$Holders" "size" "[I", .fieldLink RX2 15 "PetrolBoard$Holders" "town" "[I", .fieldLink RX2 18 "PetrolBoard$Holders" "seats" "[I", .fieldLink RX2 21 "PetrolBoard$Holders" "bid" "[I", .fieldLink RX2 24 "PetrolBoard$Holders" "need" "[I", .fieldLink RX2 27 "PetrolBoard$Holders" "noteOf" "[I", .fieldLink RX2 30 "PetrolBoard$Holders" "kind" "[I", .fieldLink RX2 33 "PetrolBoard$Holders" "from" "[I", .fieldLink RX2 36 "PetrolBoard$Holders" "toldOn" "[I", .fieldLink RX2 39 "PetrolBoard$Holders" "undoneOn" "[I"] ++ wsX20)
def wsX2_add : List Cond := .code yX2_add cX2_add 6 (some .int) :: ([.fieldLink RX2 42 "PetrolBoard$Holders" "number" "I", .fieldLink RX2 9 "PetrolBoard$Holders" "size" "[I", .fieldLink RX2 15 "PetrolBoard$Holders" "town" "[I", .fieldLink RX2 18 "PetrolBoard$Holders" "seats" "[I", .fieldLink RX2 21 "PetrolBoard$Holders" "bid" "[I", .fieldLink RX2 24 "PetrolBoard$Holders" "need" "[I"] ++ wsX20)
def wsX2_addNote : List Cond := .code yX2_addNote cX2_addNote 5 (some .int) :: ([.fieldLink RX2 46 "PetrolBoard$Holders" "notes" "I", .fieldLink RX2 27 "PetrolBoard$Holders" "noteOf" "[I", .fieldLink RX2 30 "PetrolBoard$Holders" "kind" "[I", .fieldLink RX2 33 "PetrolBoard$Holders" "from" "[I", .fieldLink RX2 36 "PetrolBoard$Holders" "toldOn" "[I", .fieldLink RX2 39 "PetrolBoard$Holders" "undoneOn" "[I"] ++ wsX20)
def wsX2_cancelNote : List Cond := .code yX2_cancelNote cX2_cancelNote 3 (some .boolean) :: ([.fieldLink RX2 46 "PetrolBoard$Holders" "notes" "I", .fieldLink RX2 39 "PetrolBoard$Holders" "undoneOn" "[I"] ++ wsX20)
def wsX2_kindOn : List Cond := .code yX2_kindOn cX2_kindOn 8 (some .int) :: ([.fieldLink RX2 46 "PetrolBoard$Holders" "notes" "I", .fieldLink RX2 27 "PetrolBoard$Holders" "noteOf" "[I", .fieldLink RX2 33 "PetrolBoard$Holders" "from" "[I", .fieldLink RX2 36 "PetrolBoard$Holders" "toldOn" "[I", .fieldLink RX2 39 "PetrolBoard$Holders" "undoneOn" "[I", .fieldLink RX2 30 "PetrolBoard$Holders" "kind" "[I"] ++ wsX20)
def wsX3_init : List Cond := .code yX3_init cX3_init 1 none :: ([.methodLink RX3 3 objectInit, .instanceMethod objectInit, .code objectInit ⟨#[0xb1]⟩ 1 none, .arrayClass .int, .fieldLink RX3 9 "PetrolBoard$Journeys" "holder" "[I", .fieldLink RX3 15 "PetrolBoard$Journeys" "miles" "[I", .fieldLink RX3 18 "PetrolBoard$Journeys" "people" "[I", .fieldLink RX3 21 "PetrolBoard$Journeys" "reason" "[I", .fieldLink RX3 24 "PetrolBoard$Journeys" "day" "[I", .fieldLink RX3 27 "PetrolBoard$Journeys" "way" "[I", .fieldLink RX3 30 "PetrolBoard$Journeys" "asked" "[I", .fieldLink RX3 33 "PetrolBoard$Journeys" "granted" "[I", .fieldLink RX3 36 "PetrolBoard$Journeys" "grantedFirst" "[I", .fieldLink RX3 39 "PetrolBoard$Journeys" "pooledSeats" "[I", .fieldLink RX3 42 "PetrolBoard$Journeys" "pooledCost" "[I"] ++ wsX30)
def wsX3_has : List Cond := .code yX3_has cX3_has 2 (some .boolean) :: ([.fieldLink RX3 45 "PetrolBoard$Journeys" "number" "I"] ++ wsX30)
def wsX3_add : List Cond := .code yX3_add cX3_add 7 (some .int) :: ([.fieldLink RX3 45 "PetrolBoard$Journeys" "number" "I", .fieldLink RX3 9 "PetrolBoard$Journeys" "holder" "[I", .fieldLink RX3 15 "PetrolBoard$Journeys" "miles" "[I", .fieldLink RX3 18 "PetrolBoard$Journeys" "people" "[I", .fieldLink RX3 21 "PetrolBoard$Journeys" "reason" "[I", .fieldLink RX3 24 "PetrolBoard$Journeys" "day" "[I", .fieldLink RX3 27 "PetrolBoard$Journeys" "way" "[I"] ++ wsX30)
def wsX3_tell : List Cond := .code yX3_tell cX3_tell 3 (some .int) :: ([.fieldLink RX3 9 "PetrolBoard$Journeys" "holder" "[I", .fieldLink RX3 15 "PetrolBoard$Journeys" "miles" "[I", .fieldLink RX3 18 "PetrolBoard$Journeys" "people" "[I", .fieldLink RX3 21 "PetrolBoard$Journeys" "reason" "[I", .fieldLink RX3 24 "PetrolBoard$Journeys" "day" "[I", .fieldLink RX3 27 "PetrolBoard$Journeys" "way" "[I", .fieldLink RX3 33 "PetrolBoard$Journeys" "granted" "[I", .fieldLink RX3 36 "PetrolBoard$Journeys" "grantedFirst" "[I", .methodLink RX3 49 yX3_has, .instanceMethod yX3_has, .selects RX3 yX3_has yX3_has, .initialized RX3, .code yX3_has cX3_has 2 (some .boolean), .fieldLink RX3 45 "PetrolBoard$Journeys" "number" "I"] ++ wsX30)
def wsX3_isLike_r1 : List Cond := [Cond.fieldLink RX3 33 "PetrolBoard$Journeys" "granted" "[I", Cond.fieldLink RX3 21 "PetrolBoard$Journeys" "reason" "[I", Cond.fieldLink RX3 18 "PetrolBoard$Journeys" "people" "[I", Cond.fieldLink RX3 15 "PetrolBoard$Journeys" "miles" "[I", Cond.methodLink RX3 57 Lib.Math.abs.name, Cond.static Lib.Math.abs.name, Cond.initialized "java/lang/Math", Cond.code Lib.Math.abs.name Lib.Math.abs.code 1 (some .int), Cond.fieldLink RX3 9 "PetrolBoard$Journeys" "holder" "[I", Cond.fieldLink RX3 24 "PetrolBoard$Journeys" "day" "[I", Cond.methodLink RX3 49 yX3_has, Cond.instanceMethod yX3_has, Cond.selects RX3 yX3_has yX3_has, Cond.initialized RX3, Cond.code yX3_has cX3_has 2 (some .boolean), Cond.fieldLink RX3 45 "PetrolBoard$Journeys" "number" "I", Cond.methodLink RX3 63 yX2_kindOn, Cond.instanceMethod yX2_kindOn, Cond.selects RX2 yX2_kindOn yX2_kindOn, Cond.initialized RX2, Cond.code yX2_kindOn cX2_kindOn 8 (some .int), Cond.fieldLink RX2 46 "PetrolBoard$Holders" "notes" "I", Cond.fieldLink RX2 27 "PetrolBoard$Holders" "noteOf" "[I", Cond.fieldLink RX2 33 "PetrolBoard$Holders" "from" "[I"]
def wsX3_isLike_r2 : List Cond := [Cond.fieldLink RX2 36 "PetrolBoard$Holders" "toldOn" "[I", Cond.fieldLink RX2 39 "PetrolBoard$Holders" "undoneOn" "[I", Cond.fieldLink RX2 30 "PetrolBoard$Holders" "kind" "[I"]
def wsX3_isLike : List Cond := .code yX3_isLike cX3_isLike 5 (some .boolean) :: ((wsX3_isLike_r1 ++ wsX3_isLike_r2) ++ wsX30 ++ wsX20)
def wsX3_likeOf_r1 : List Cond := [Cond.fieldLink RX3 45 "PetrolBoard$Journeys" "number" "I", Cond.methodLink RX3 53 yX3_isLike, Cond.instanceMethod yX3_isLike, Cond.selects RX3 yX3_isLike yX3_isLike, Cond.initialized RX3, Cond.code yX3_isLike cX3_isLike 5 (some .boolean), Cond.fieldLink RX3 33 "PetrolBoard$Journeys" "granted" "[I", Cond.fieldLink RX3 21 "PetrolBoard$Journeys" "reason" "[I", Cond.fieldLink RX3 18 "PetrolBoard$Journeys" "people" "[I", Cond.fieldLink RX3 15 "PetrolBoard$Journeys" "miles" "[I", Cond.methodLink RX3 57 Lib.Math.abs.name, Cond.static Lib.Math.abs.name, Cond.initialized "java/lang/Math", Cond.code Lib.Math.abs.name Lib.Math.abs.code 1 (some .int), Cond.fieldLink RX3 9 "PetrolBoard$Journeys" "holder" "[I", Cond.fieldLink RX3 24 "PetrolBoard$Journeys" "day" "[I", Cond.methodLink RX3 49 yX3_has, Cond.instanceMethod yX3_has, Cond.selects RX3 yX3_has yX3_has, Cond.code yX3_has cX3_has 2 (some .boolean), Cond.methodLink RX3 63 yX2_kindOn, Cond.instanceMethod yX2_kindOn, Cond.selects RX2 yX2_kindOn yX2_kindOn, Cond.initialized RX2]
def wsX3_likeOf_r2 : List Cond := [Cond.code yX2_kindOn cX2_kindOn 8 (some .int), Cond.fieldLink RX2 46 "PetrolBoard$Holders" "notes" "I", Cond.fieldLink RX2 27 "PetrolBoard$Holders" "noteOf" "[I", Cond.fieldLink RX2 33 "PetrolBoard$Holders" "from" "[I", Cond.fieldLink RX2 36 "PetrolBoard$Holders" "toldOn" "[I", Cond.fieldLink RX2 39 "PetrolBoard$Holders" "undoneOn" "[I", Cond.fieldLink RX2 30 "PetrolBoard$Holders" "kind" "[I"]
def wsX3_likeOf : List Cond := .code yX3_likeOf cX3_likeOf 7 (some .int) :: ((wsX3_likeOf_r1 ++ wsX3_likeOf_r2) ++ wsX30 ++ wsX20)
def wsX3_gather : List Cond := .code yX3_gather cX3_gather 5 none :: ([.fieldLink RX3 76 "PetrolBoard$Journeys" "pooled" "I", .fieldLink RX3 87 "PetrolBoard$Journeys" "poolPeople" "I", .fieldLink RX3 45 "PetrolBoard$Journeys" "number" "I", .fieldLink RX3 24 "PetrolBoard$Journeys" "day" "[I", .fieldLink RX3 27 "PetrolBoard$Journeys" "way" "[I", .fieldLink RX3 9 "PetrolBoard$Journeys" "holder" "[I", .fieldLink RX3 39 "PetrolBoard$Journeys" "pooledSeats" "[I", .fieldLink RX3 91 "PetrolBoard$Holders" "seats" "[I", .fieldLink RX3 42 "PetrolBoard$Journeys" "pooledCost" "[I", .fieldLink RX3 15 "PetrolBoard$Journeys" "miles" "[I", .fieldLink RX3 94 "PetrolBoard$Holders" "size" "[I", .fieldLink RX3 18 "PetrolBoard$Journeys" "people" "[I", .methodLink RX3 90 yX2_has, .instanceMethod yX2_has, .selects RX2 yX2_has yX2_has, .initialized RX2, .code yX2_has cX2_has 2 (some .boolean), .fieldLink RX2 42 "PetrolBoard$Holders" "number" "I"] ++ wsX30 ++ wsX20)
def wsJ6_bitCount_0f7a4 : List Cond := .code yJ6_bitCount_0f7a4 cJ6_bitCount_0f7a4 1 (some .int) :: ([.constant RJ6 265 (1431655765), .constant RJ6 266 (858993459), .constant RJ6 267 (252645135)])
def wsX3_weigh : List Cond := .code yX3_weigh cX3_weigh 6 none :: ([.fieldLink RX3 76 "PetrolBoard$Journeys" "pooled" "I", .fieldLink RX3 39 "PetrolBoard$Journeys" "pooledSeats" "[I", .fieldLink RX3 42 "PetrolBoard$Journeys" "pooledCost" "[I", .fieldLink RX3 73 "PetrolBoard$Journeys" "poolSet" "I", .fieldLink RX3 102 "PetrolBoard$Journeys" "poolCars" "I", .fieldLink RX3 105 "PetrolBoard$Journeys" "poolCost" "I", .fieldLink RX3 87 "PetrolBoard$Journeys" "poolPeople" "I", .methodLink RX3 97 yJ6_bitCount_0f7a4, .static yJ6_bitCount_0f7a4, .initialized RJ6, .code yJ6_bitCount_0f7a4 cJ6_bitCount_0f7a4 1 (some .int), .constant RJ6 265 (1431655765), .constant RJ6 266 (858993459), .constant RJ6 267 (252645135)] ++ wsX30)
def wsX3_poolOf_r1 : List Cond := [Cond.fieldLink RX3 73 "PetrolBoard$Journeys" "poolSet" "I", Cond.fieldLink RX3 76 "PetrolBoard$Journeys" "pooled" "I", Cond.methodLink RX3 79 Lib.Math.min.name, Cond.static Lib.Math.min.name, Cond.initialized "java/lang/Math", Cond.code Lib.Math.min.name Lib.Math.min.code 2 (some .int), Cond.methodLink RX3 69 yX3_gather, Cond.instanceMethod yX3_gather, Cond.selects RX3 yX3_gather yX3_gather, Cond.initialized RX3, Cond.code yX3_gather cX3_gather 5 none, Cond.fieldLink RX3 87 "PetrolBoard$Journeys" "poolPeople" "I", Cond.fieldLink RX3 45 "PetrolBoard$Journeys" "number" "I", Cond.fieldLink RX3 24 "PetrolBoard$Journeys" "day" "[I", Cond.fieldLink RX3 27 "PetrolBoard$Journeys" "way" "[I", Cond.fieldLink RX3 9 "PetrolBoard$Journeys" "holder" "[I", Cond.fieldLink RX3 39 "PetrolBoard$Journeys" "pooledSeats" "[I", Cond.fieldLink RX3 91 "PetrolBoard$Holders" "seats" "[I", Cond.fieldLink RX3 42 "PetrolBoard$Journeys" "pooledCost" "[I", Cond.fieldLink RX3 15 "PetrolBoard$Journeys" "miles" "[I", Cond.fieldLink RX3 94 "PetrolBoard$Holders" "size" "[I", Cond.fieldLink RX3 18 "PetrolBoard$Journeys" "people" "[I", Cond.methodLink RX3 90 yX2_has, Cond.instanceMethod yX2_has]
def wsX3_poolOf_r2 : List Cond := [Cond.selects RX2 yX2_has yX2_has, Cond.initialized RX2, Cond.code yX2_has cX2_has 2 (some .boolean), Cond.fieldLink RX2 42 "PetrolBoard$Holders" "number" "I", Cond.methodLink RX3 83 yX3_weigh, Cond.instanceMethod yX3_weigh, Cond.selects RX3 yX3_weigh yX3_weigh, Cond.code yX3_weigh cX3_weigh 6 none, Cond.fieldLink RX3 102 "PetrolBoard$Journeys" "poolCars" "I", Cond.fieldLink RX3 105 "PetrolBoard$Journeys" "poolCost" "I", Cond.methodLink RX3 97 yJ6_bitCount_0f7a4, Cond.static yJ6_bitCount_0f7a4, Cond.initialized RJ6, Cond.code yJ6_bitCount_0f7a4 cJ6_bitCount_0f7a4 1 (some .int), Cond.constant RJ6 265 (1431655765), Cond.constant RJ6 266 (858993459), Cond.constant RJ6 267 (252645135)]
def wsX3_poolOf : List Cond := .code yX3_poolOf cX3_poolOf 6 (some .boolean) :: ((wsX3_poolOf_r1 ++ wsX3_poolOf_r2) ++ wsX30 ++ wsX20)
def wsX4_init : List Cond := .code yX4_init cX4_init 1 none :: ([.methodLink RX4 3 objectInit, .instanceMethod objectInit, .code objectInit ⟨#[0xb1]⟩ 1 none, .arrayClass .int, .fieldLink RX4 9 "PetrolBoard$Loads" "inPort" "[I", .fieldLink RX4 15 "PetrolBoard$Loads" "wanted" "[I", .classLink RX4 18 "[[I", .fieldLink RX4 20 "PetrolBoard$Loads" "miles" "[[I", .fieldLink RX4 23 "PetrolBoard$Loads" "sent" "[[I", .fieldLink RX4 26 "PetrolBoard$Loads" "left" "[I", .fieldLink RX4 29 "PetrolBoard$Loads" "lacking" "[I", .fieldLink RX4 32 "PetrolBoard$Loads" "toPort" "[I", .fieldLink RX4 35 "PetrolBoard$Loads" "toStation" "[I", .fieldLink RX4 38 "PetrolBoard$Loads" "byPort" "[I", .fieldLink RX4 41 "PetrolBoard$Loads" "byStation" "[I"] ++ wsX40)
def wsX4_hasPort : List Cond := .code yX4_hasPort cX4_hasPort 2 (some .boolean) :: ([.fieldLink RX4 44 "PetrolBoard$Loads" "ports" "I"] ++ wsX40)
def wsX4_addPort : List Cond := .code yX4_addPort cX4_addPort 2 (some .int) :: ([.fieldLink RX4 44 "PetrolBoard$Loads" "ports" "I", .fieldLink RX4 9 "PetrolBoard$Loads" "inPort" "[I"] ++ wsX40)
def wsX4_putWant : List Cond := .code yX4_putWant cX4_putWant 3 none :: ([.fieldLink RX4 15 "PetrolBoard$Loads" "wanted" "[I"] ++ wsX40)
def wsX4_putRoad : List Cond := .code yX4_putRoad cX4_putRoad 4 none :: ([.fieldLink RX4 20 "PetrolBoard$Loads" "miles" "[[I", .methodLink RX4 48 yX4_hasPort, .instanceMethod yX4_hasPort, .selects RX4 yX4_hasPort yX4_hasPort, .initialized RX4, .code yX4_hasPort cX4_hasPort 2 (some .boolean), .fieldLink RX4 44 "PetrolBoard$Loads" "ports" "I"] ++ wsX40)
def wsX4_inPorts : List Cond := .code yX4_inPorts cX4_inPorts 3 (some .int) :: ([.fieldLink RX4 44 "PetrolBoard$Loads" "ports" "I", .fieldLink RX4 9 "PetrolBoard$Loads" "inPort" "[I"] ++ wsX40)
def wsX4_shorten : List Cond := .code yX4_shorten cX4_shorten 5 (some .boolean) :: ([.fieldLink RX4 20 "PetrolBoard$Loads" "miles" "[[I", .fieldLink RX4 32 "PetrolBoard$Loads" "toPort" "[I", .constant RX4 72 (1000000), .fieldLink RX4 35 "PetrolBoard$Loads" "toStation" "[I", .fieldLink RX4 38 "PetrolBoard$Loads" "byPort" "[I", .fieldLink RX4 23 "PetrolBoard$Loads" "sent" "[[I", .fieldLink RX4 41 "PetrolBoard$Loads" "byStation" "[I"] ++ wsX40)
def wsX4_cheapestEnd : List Cond := .code yX4_cheapestEnd cX4_cheapestEnd 5 (some .int) :: ([.fieldLink RX4 32 "PetrolBoard$Loads" "toPort" "[I", .fieldLink RX4 26 "PetrolBoard$Loads" "left" "[I", .constant RX4 72 (1000000), .fieldLink RX4 41 "PetrolBoard$Loads" "byStation" "[I", .fieldLink RX4 35 "PetrolBoard$Loads" "toStation" "[I", .fieldLink RX4 38 "PetrolBoard$Loads" "byPort" "[I", .fieldLink RX4 29 "PetrolBoard$Loads" "lacking" "[I", .methodLink RX4 58 yJ7_fill_53178, .static yJ7_fill_53178, .initialized RJ7, .code yJ7_fill_53178 cJ7_fill_53178 4 none, .methodLink RX4 73 yX4_shorten, .instanceMethod yX4_shorten, .selects RX4 yX4_shorten yX4_shorten, .initialized RX4, .code yX4_shorten cX4_shorten 5 (some .boolean), .fieldLink RX4 20 "PetrolBoard$Loads" "miles" "[[I", .fieldLink RX4 23 "PetrolBoard$Loads" "sent" "[[I"] ++ wsX40)
def wsX4_isStation : List Cond := .code yX4_isStation cX4_isStation 1 (some .boolean) :: ([])
def wsX4_isPort : List Cond := .code yX4_isPort cX4_isPort 1 (some .boolean) :: ([])
def wsX4_loadTo : List Cond := .code yX4_loadTo cX4_loadTo 6 (some .int) :: ([.fieldLink RX4 29 "PetrolBoard$Loads" "lacking" "[I", .fieldLink RX4 38 "PetrolBoard$Loads" "byPort" "[I", .fieldLink RX4 41 "PetrolBoard$Loads" "byStation" "[I", .fieldLink RX4 23 "PetrolBoard$Loads" "sent" "[[I", .fieldLink RX4 26 "PetrolBoard$Loads" "left" "[I", .methodLink RX4 87 Lib.Math.min.name, .static Lib.Math.min.name, .initialized "java/lang/Math", .code Lib.Math.min.name Lib.Math.min.code 2 (some .int), .methodLink RX4 81 yX4_isStation, .static yX4_isStation, .initialized RX4, .code yX4_isStation cX4_isStation 1 (some .boolean), .methodLink RX4 84 yX4_isPort, .static yX4_isPort, .code yX4_isPort cX4_isPort 1 (some .boolean)] ++ wsX40)
def wsX4_sendTo : List Cond := .code yX4_sendTo cX4_sendTo 6 none :: ([.fieldLink RX4 29 "PetrolBoard$Loads" "lacking" "[I", .fieldLink RX4 38 "PetrolBoard$Loads" "byPort" "[I", .fieldLink RX4 23 "PetrolBoard$Loads" "sent" "[[I", .fieldLink RX4 55 "PetrolBoard$Loads" "sentMiles" "I", .fieldLink RX4 20 "PetrolBoard$Loads" "miles" "[[I", .fieldLink RX4 41 "PetrolBoard$Loads" "byStation" "[I", .fieldLink RX4 26 "PetrolBoard$Loads" "left" "[I", .fieldLink RX4 52 "PetrolBoard$Loads" "sentLoads" "I", .methodLink RX4 77 yX4_loadTo, .instanceMethod yX4_loadTo, .selects RX4 yX4_loadTo yX4_loadTo, .initialized RX4, .code yX4_loadTo cX4_loadTo 6 (some .int), .methodLink RX4 87 Lib.Math.min.name, .static Lib.Math.min.name, .initialized "java/lang/Math", .code Lib.Math.min.name Lib.Math.min.code 2 (some .int), .methodLink RX4 81 yX4_isStation, .static yX4_isStation, .code yX4_isStation cX4_isStation 1 (some .boolean), .methodLink RX4 84 yX4_isPort, .static yX4_isPort, .code yX4_isPort cX4_isPort 1 (some .boolean)] ++ wsX40)
def wsX4_send_r1 : List Cond := [Cond.fieldLink RX4 52 "PetrolBoard$Loads" "sentLoads" "I", Cond.fieldLink RX4 55 "PetrolBoard$Loads" "sentMiles" "I", Cond.fieldLink RX4 26 "PetrolBoard$Loads" "left" "[I", Cond.fieldLink RX4 9 "PetrolBoard$Loads" "inPort" "[I", Cond.fieldLink RX4 23 "PetrolBoard$Loads" "sent" "[[I", Cond.fieldLink RX4 29 "PetrolBoard$Loads" "lacking" "[I", Cond.fieldLink RX4 15 "PetrolBoard$Loads" "wanted" "[I", Cond.methodLink RX4 58 yJ7_fill_53178, Cond.static yJ7_fill_53178, Cond.initialized RJ7, Cond.code yJ7_fill_53178 cJ7_fill_53178 4 none, Cond.methodLink RX4 64 yX4_cheapestEnd, Cond.instanceMethod yX4_cheapestEnd, Cond.selects RX4 yX4_cheapestEnd yX4_cheapestEnd, Cond.initialized RX4, Cond.code yX4_cheapestEnd cX4_cheapestEnd 5 (some .int), Cond.fieldLink RX4 32 "PetrolBoard$Loads" "toPort" "[I", Cond.constant RX4 72 (1000000), Cond.fieldLink RX4 41 "PetrolBoard$Loads" "byStation" "[I", Cond.fieldLink RX4 35 "PetrolBoard$Loads" "toStation" "[I", Cond.fieldLink RX4 38 "PetrolBoard$Loads" "byPort" "[I", Cond.methodLink RX4 73 yX4_shorten, Cond.instanceMethod yX4_shorten, Cond.selects RX4 yX4_shorten yX4_shorten]
def wsX4_send_r2 : List Cond := [Cond.code yX4_shorten cX4_shorten 5 (some .boolean), Cond.fieldLink RX4 20 "PetrolBoard$Loads" "miles" "[[I", Cond.methodLink RX4 68 yX4_sendTo, Cond.instanceMethod yX4_sendTo, Cond.selects RX4 yX4_sendTo yX4_sendTo, Cond.code yX4_sendTo cX4_sendTo 6 none, Cond.methodLink RX4 77 yX4_loadTo, Cond.instanceMethod yX4_loadTo, Cond.selects RX4 yX4_loadTo yX4_loadTo, Cond.code yX4_loadTo cX4_loadTo 6 (some .int), Cond.methodLink RX4 87 Lib.Math.min.name, Cond.static Lib.Math.min.name, Cond.initialized "java/lang/Math", Cond.code Lib.Math.min.name Lib.Math.min.code 2 (some .int), Cond.methodLink RX4 81 yX4_isStation, Cond.static yX4_isStation, Cond.code yX4_isStation cX4_isStation 1 (some .boolean), Cond.methodLink RX4 84 yX4_isPort, Cond.static yX4_isPort, Cond.code yX4_isPort cX4_isPort 1 (some .boolean)]
def wsX4_send : List Cond := .code yX4_send cX4_send 4 none :: ((wsX4_send_r1 ++ wsX4_send_r2) ++ wsX40)
def wsX5_init : List Cond := .code yX5_init cX5_init 1 none :: ([.methodLink RX5 3 objectInit, .instanceMethod objectInit, .code objectInit ⟨#[0xb1]⟩ 1 none, .arrayClass .int, .fieldLink RX5 9 "PetrolBoard$Machine" "names" "[I", .fieldLink RX5 15 "PetrolBoard$Machine" "stack" "[I"] ++ wsX50)
def wsX5_nameValue : List Cond := .code yX5_nameValue cX5_nameValue 2 (some .int) :: ([.fieldLink RX5 9 "PetrolBoard$Machine" "names" "[I"] ++ wsX50)
def wsX5_joined : List Cond := .code yX5_joined cX5_joined 5 (some .int) :: ([.constantLong RX5 32 (-1000000000), .constantLong RX5 34 (1000000000), .methodLink RX5 36 Lib.MathLoose.min_long.x, .static Lib.MathLoose.min_long.x, .initialized "java/lang/Math", .code Lib.MathLoose.min_long.x Lib.MathLoose.min_long.code 4 (some .long), .methodLink RX5 40 Lib.MathLoose.max_long.x, .static Lib.MathLoose.max_long.x, .code Lib.MathLoose.max_long.x Lib.MathLoose.max_long.code 4 (some .long)])
def wsX5_result : List Cond := .code yX5_result cX5_result 6 (some .int) :: ([.methodLink RX5 18 Lib.Math.max.name, .static Lib.Math.max.name, .initialized "java/lang/Math", .code Lib.Math.max.name Lib.Math.max.code 2 (some .int), .fieldLink RX5 15 "PetrolBoard$Machine" "stack" "[I", .methodLink RX5 24 yX5_nameValue, .instanceMethod yX5_nameValue, .selects RX5 yX5_nameValue yX5_nameValue, .initialized RX5, .code yX5_nameValue cX5_nameValue 2 (some .int), .fieldLink RX5 9 "PetrolBoard$Machine" "names" "[I", .methodLink RX5 28 yX5_joined, .static yX5_joined, .code yX5_joined cX5_joined 5 (some .int), .constantLong RX5 32 (-1000000000), .constantLong RX5 34 (1000000000), .methodLink RX5 36 Lib.MathLoose.min_long.x, .static Lib.MathLoose.min_long.x, .code Lib.MathLoose.min_long.x Lib.MathLoose.min_long.code 4 (some .long), .methodLink RX5 40 Lib.MathLoose.max_long.x, .static Lib.MathLoose.max_long.x, .code Lib.MathLoose.max_long.x Lib.MathLoose.max_long.code 4 (some .long)] ++ wsX50)
def wsX6_init : List Cond := .code yX6_init cX6_init 1 none :: ([.methodLink RX6 3 objectInit, .instanceMethod objectInit, .code objectInit ⟨#[0xb1]⟩ 1 none, .classLink RX6 9 RX7, .fieldLink RX6 11 "PetrolBoard$OrderBook" "told" "[LPetrolBoard$Orders;", .classLink RX6 17 RX5, .instantiable RX5 2, .initialized RX5, .fieldLink RX6 20 "PetrolBoard$OrderBook" "machine" "LPetrolBoard$Machine;", .instanceMethod yX5_init, .code yX5_init cX5_init 1 none, .methodLink RX5 3 objectInit, .arrayClass .int, .fieldLink RX5 9 "PetrolBoard$Machine" "names" "[I", .fieldLink RX5 15 "PetrolBoard$Machine" "stack" "[I"] ++ wsX60 ++ wsX50)
def wsX6_add : List Cond := .code yX6_add cX6_add 2 (some .int) :: ([.fieldLink RX6 24 "PetrolBoard$OrderBook" "number" "I", .fieldLink RX6 11 "PetrolBoard$OrderBook" "told" "[LPetrolBoard$Orders;"] ++ wsX60)
def wsX6_inForce : List Cond := .code yX6_inForce cX6_inForce 8 (some .int) :: ([.fieldLink RX6 24 "PetrolBoard$OrderBook" "number" "I", .fieldLink RX6 11 "PetrolBoard$OrderBook" "told" "[LPetrolBoard$Orders;", .fieldLink RX6 28 "PetrolBoard$Orders" "toldOn" "I", .fieldLink RX6 31 "PetrolBoard$Orders" "month" "I"] ++ wsX60 ++ wsX70)
def wsX6_ordersOf : List Cond := .code yX6_ordersOf cX6_ordersOf 4 (some (.object "PetrolBoard$Orders")) :: ([.fieldLink RX6 11 "PetrolBoard$OrderBook" "told" "[LPetrolBoard$Orders;", .methodLink RX6 34 yX6_inForce, .instanceMethod yX6_inForce, .selects RX6 yX6_inForce yX6_inForce, .initialized RX6, .code yX6_inForce cX6_inForce 8 (some .int), .fieldLink RX6 24 "PetrolBoard$OrderBook" "number" "I", .fieldLink RX6 28 "PetrolBoard$Orders" "toldOn" "I", .fieldLink RX6 31 "PetrolBoard$Orders" "month" "I"] ++ wsX60 ++ wsX70)
def wsX11_usual : List Cond := .code yX11_usual cX11_usual 1 (some .int) :: ([.fieldLink RX11 426 "PetrolBoard" "USUAL" "[I"])
def wsX7_amount : List Cond := .code yX7_amount cX7_amount 3 (some .int) :: ([.fieldLink RX7 44 "PetrolBoard$Orders" "first" "[I", .fieldLink RX7 40 "PetrolBoard$Orders" "head" "[I", .static yX11_usual, .initialized RX11, .code yX11_usual cX11_usual 1 (some .int), .fieldLink RX11 426 "PetrolBoard" "USUAL" "[I"] ++ wsX70)
def wsX6_amount : List Cond := .code yX6_amount cX6_amount 5 (some .int) :: ([.methodLink RX6 38 yX6_ordersOf, .instanceMethod yX6_ordersOf, .selects RX6 yX6_ordersOf yX6_ordersOf, .initialized RX6, .code yX6_ordersOf cX6_ordersOf 4 (some (.object "PetrolBoard$Orders")), .fieldLink RX6 11 "PetrolBoard$OrderBook" "told" "[LPetrolBoard$Orders;", .methodLink RX6 34 yX6_inForce, .instanceMethod yX6_inForce, .selects RX6 yX6_inForce yX6_inForce, .code yX6_inForce cX6_inForce 8 (some .int), .fieldLink RX6 24 "PetrolBoard$OrderBook" "number" "I", .fieldLink RX6 28 "PetrolBoard$Orders" "toldOn" "I", .fieldLink RX6 31 "PetrolBoard$Orders" "month" "I", .static yX11_usual, .initialized RX11, .code yX11_usual cX11_usual 1 (some .int), .fieldLink RX11 426 "PetrolBoard" "USUAL" "[I", .methodLink RX6 46 yX7_amount, .instanceMethod yX7_amount, .selects RX7 yX7_amount yX7_amount, .initialized RX7, .code yX7_amount cX7_amount 3 (some .int), .fieldLink RX7 44 "PetrolBoard$Orders" "first" "[I", .fieldLink RX7 40 "PetrolBoard$Orders" "head" "[I"] ++ wsX60 ++ wsX70)
def wsX6_putHolder : List Cond := .code yX6_putHolder cX6_putHolder 5 none :: ([.fieldLink RX6 20 "PetrolBoard$OrderBook" "machine" "LPetrolBoard$Machine;", .fieldLink RX6 93 "PetrolBoard$Machine" "names" "[I", .fieldLink RX6 100 "PetrolBoard$Holders" "size" "[I", .fieldLink RX6 103 "PetrolBoard$Holders" "town" "[I", .methodLink RX6 49 yX2_has, .instanceMethod yX2_has, .selects RX2 yX2_has yX2_has, .initialized RX2, .code yX2_has cX2_has 2 (some .boolean), .fieldLink RX2 42 "PetrolBoard$Holders" "number" "I", .methodLink RX6 96 yX2_kindOn, .instanceMethod yX2_kindOn, .selects RX2 yX2_kindOn yX2_kindOn, .code yX2_kindOn cX2_kindOn 8 (some .int), .fieldLink RX2 46 "PetrolBoard$Holders" "notes" "I", .fieldLink RX2 27 "PetrolBoard$Holders" "noteOf" "[I", .fieldLink RX2 33 "PetrolBoard$Holders" "from" "[I", .fieldLink RX2 36 "PetrolBoard$Holders" "toldOn" "[I", .fieldLink RX2 39 "PetrolBoard$Holders" "undoneOn" "[I", .fieldLink RX2 30 "PetrolBoard$Holders" "kind" "[I"] ++ wsX60 ++ wsX50 ++ wsX20)
def wsX6_putJourney : List Cond := .code yX6_putJourney cX6_putJourney 4 none :: ([.fieldLink RX6 20 "PetrolBoard$OrderBook" "machine" "LPetrolBoard$Machine;", .fieldLink RX6 93 "PetrolBoard$Machine" "names" "[I"] ++ wsX60 ++ wsX50)
def wsX7_holds_r1 : List Cond := [Cond.fieldLink RX7 48 "PetrolBoard$Orders" "second" "[I", Cond.fieldLink RX7 52 "PetrolBoard$Orders" "code" "[I", Cond.methodLink RX7 61 yX5_result, Cond.instanceMethod yX5_result, Cond.selects RX5 yX5_result yX5_result, Cond.initialized RX5, Cond.code yX5_result cX5_result 6 (some .int), Cond.methodLink RX5 18 Lib.Math.max.name, Cond.static Lib.Math.max.name, Cond.initialized "java/lang/Math", Cond.code Lib.Math.max.name Lib.Math.max.code 2 (some .int), Cond.fieldLink RX5 15 "PetrolBoard$Machine" "stack" "[I", Cond.methodLink RX5 24 yX5_nameValue, Cond.instanceMethod yX5_nameValue, Cond.selects RX5 yX5_nameValue yX5_nameValue, Cond.code yX5_nameValue cX5_nameValue 2 (some .int), Cond.fieldLink RX5 9 "PetrolBoard$Machine" "names" "[I", Cond.methodLink RX5 28 yX5_joined, Cond.static yX5_joined, Cond.code yX5_joined cX5_joined 5 (some .int), Cond.constantLong RX5 32 (-1000000000), Cond.constantLong RX5 34 (1000000000), Cond.methodLink RX5 36 Lib.MathLoose.min_long.x, Cond.static Lib.MathLoose.min_long.x]
def wsX7_holds_r2 : List Cond := [Cond.code Lib.MathLoose.min_long.x Lib.MathLoose.min_long.code 4 (some .long), Cond.methodLink RX5 40 Lib.MathLoose.max_long.x, Cond.static Lib.MathLoose.max_long.x, Cond.code Lib.MathLoose.max_long.x Lib.MathLoose.max_long.code 4 (some .long)]
def wsX7_holds : List Cond := .code yX7_holds cX7_holds 3 (some .boolean) :: ((wsX7_holds_r1 ++ wsX7_holds_r2) ++ wsX70 ++ wsX50)
def wsX7_stops_r1 : List Cond := [Cond.fieldLink RX7 40 "PetrolBoard$Orders" "head" "[I", Cond.methodLink RX7 57 yX7_holds, Cond.instanceMethod yX7_holds, Cond.selects RX7 yX7_holds yX7_holds, Cond.initialized RX7, Cond.code yX7_holds cX7_holds 3 (some .boolean), Cond.fieldLink RX7 48 "PetrolBoard$Orders" "second" "[I", Cond.fieldLink RX7 52 "PetrolBoard$Orders" "code" "[I", Cond.methodLink RX7 61 yX5_result, Cond.instanceMethod yX5_result, Cond.selects RX5 yX5_result yX5_result, Cond.initialized RX5, Cond.code yX5_result cX5_result 6 (some .int), Cond.methodLink RX5 18 Lib.Math.max.name, Cond.static Lib.Math.max.name, Cond.initialized "java/lang/Math", Cond.code Lib.Math.max.name Lib.Math.max.code 2 (some .int), Cond.fieldLink RX5 15 "PetrolBoard$Machine" "stack" "[I", Cond.methodLink RX5 24 yX5_nameValue, Cond.instanceMethod yX5_nameValue, Cond.selects RX5 yX5_nameValue yX5_nameValue, Cond.code yX5_nameValue cX5_nameValue 2 (some .int), Cond.fieldLink RX5 9 "PetrolBoard$Machine" "names" "[I", Cond.methodLink RX5 28 yX5_joined]
def wsX7_stops_r2 : List Cond := [Cond.static yX5_joined, Cond.code yX5_joined cX5_joined 5 (some .int), Cond.constantLong RX5 32 (-1000000000), Cond.constantLong RX5 34 (1000000000), Cond.methodLink RX5 36 Lib.MathLoose.min_long.x, Cond.static Lib.MathLoose.min_long.x, Cond.code Lib.MathLoose.min_long.x Lib.MathLoose.min_long.code 4 (some .long), Cond.methodLink RX5 40 Lib.MathLoose.max_long.x, Cond.static Lib.MathLoose.max_long.x, Cond.code Lib.MathLoose.max_long.x Lib.MathLoose.max_long.code 4 (some .long)]
def wsX7_stops : List Cond := .code yX7_stops cX7_stops 3 (some .boolean) :: ((wsX7_stops_r1 ++ wsX7_stops_r2) ++ wsX70 ++ wsX50)
def wsX7_dealt_r1 : List Cond := [Cond.fieldLink RX7 40 "PetrolBoard$Orders" "head" "[I", Cond.fieldLink RX7 44 "PetrolBoard$Orders" "first" "[I", Cond.fieldLink RX7 52 "PetrolBoard$Orders" "code" "[I", Cond.methodLink RX7 67 Lib.Math.min.name, Cond.static Lib.Math.min.name, Cond.initialized "java/lang/Math", Cond.code Lib.Math.min.name Lib.Math.min.code 2 (some .int), Cond.methodLink RX7 73 Lib.Math.max.name, Cond.static Lib.Math.max.name, Cond.code Lib.Math.max.name Lib.Math.max.code 2 (some .int), Cond.methodLink RX7 57 yX7_holds, Cond.instanceMethod yX7_holds, Cond.selects RX7 yX7_holds yX7_holds, Cond.initialized RX7, Cond.code yX7_holds cX7_holds 3 (some .boolean), Cond.fieldLink RX7 48 "PetrolBoard$Orders" "second" "[I", Cond.methodLink RX7 61 yX5_result, Cond.instanceMethod yX5_result, Cond.selects RX5 yX5_result yX5_result, Cond.initialized RX5, Cond.code yX5_result cX5_result 6 (some .int), Cond.methodLink RX5 18 Lib.Math.max.name, Cond.fieldLink RX5 15 "PetrolBoard$Machine" "stack" "[I", Cond.methodLink RX5 24 yX5_nameValue]
def wsX7_dealt_r2 : List Cond := [Cond.instanceMethod yX5_nameValue, Cond.selects RX5 yX5_nameValue yX5_nameValue, Cond.code yX5_nameValue cX5_nameValue 2 (some .int), Cond.fieldLink RX5 9 "PetrolBoard$Machine" "names" "[I", Cond.methodLink RX5 28 yX5_joined, Cond.static yX5_joined, Cond.code yX5_joined cX5_joined 5 (some .int), Cond.constantLong RX5 32 (-1000000000), Cond.constantLong RX5 34 (1000000000), Cond.methodLink RX5 36 Lib.MathLoose.min_long.x, Cond.static Lib.MathLoose.min_long.x, Cond.code Lib.MathLoose.min_long.x Lib.MathLoose.min_long.code 4 (some .long), Cond.methodLink RX5 40 Lib.MathLoose.max_long.x, Cond.static Lib.MathLoose.max_long.x, Cond.code Lib.MathLoose.max_long.x Lib.MathLoose.max_long.code 4 (some .long)]
def wsX7_dealt : List Cond := .code yX7_dealt cX7_dealt 5 (some .int) :: ((wsX7_dealt_r1 ++ wsX7_dealt_r2) ++ wsX70 ++ wsX50)
def wsX6_unitsOf_r1 : List Cond := [Cond.fieldLink RX6 20 "PetrolBoard$OrderBook" "machine" "LPetrolBoard$Machine;", Cond.methodLink RX6 38 yX6_ordersOf, Cond.instanceMethod yX6_ordersOf, Cond.selects RX6 yX6_ordersOf yX6_ordersOf, Cond.initialized RX6, Cond.code yX6_ordersOf cX6_ordersOf 4 (some (.object "PetrolBoard$Orders")), Cond.fieldLink RX6 11 "PetrolBoard$OrderBook" "told" "[LPetrolBoard$Orders;", Cond.methodLink RX6 34 yX6_inForce, Cond.instanceMethod yX6_inForce, Cond.selects RX6 yX6_inForce yX6_inForce, Cond.code yX6_inForce cX6_inForce 8 (some .int), Cond.fieldLink RX6 24 "PetrolBoard$OrderBook" "number" "I", Cond.fieldLink RX6 28 "PetrolBoard$Orders" "toldOn" "I", Cond.fieldLink RX6 31 "PetrolBoard$Orders" "month" "I", Cond.methodLink RX6 49 yX2_has, Cond.instanceMethod yX2_has, Cond.selects RX2 yX2_has yX2_has, Cond.initialized RX2, Cond.code yX2_has cX2_has 2 (some .boolean), Cond.fieldLink RX2 42 "PetrolBoard$Holders" "number" "I", Cond.methodLink RX6 55 yX6_putHolder, Cond.instanceMethod yX6_putHolder, Cond.selects RX6 yX6_putHolder yX6_putHolder, Cond.code yX6_putHolder cX6_putHolder 5 none]
def wsX6_unitsOf_r2 : List Cond := [Cond.fieldLink RX6 93 "PetrolBoard$Machine" "names" "[I", Cond.fieldLink RX6 100 "PetrolBoard$Holders" "size" "[I", Cond.fieldLink RX6 103 "PetrolBoard$Holders" "town" "[I", Cond.methodLink RX6 96 yX2_kindOn, Cond.instanceMethod yX2_kindOn, Cond.selects RX2 yX2_kindOn yX2_kindOn, Cond.code yX2_kindOn cX2_kindOn 8 (some .int), Cond.fieldLink RX2 46 "PetrolBoard$Holders" "notes" "I", Cond.fieldLink RX2 27 "PetrolBoard$Holders" "noteOf" "[I", Cond.fieldLink RX2 33 "PetrolBoard$Holders" "from" "[I", Cond.fieldLink RX2 36 "PetrolBoard$Holders" "toldOn" "[I", Cond.fieldLink RX2 39 "PetrolBoard$Holders" "undoneOn" "[I", Cond.fieldLink RX2 30 "PetrolBoard$Holders" "kind" "[I", Cond.methodLink RX6 59 yX6_putJourney, Cond.instanceMethod yX6_putJourney, Cond.selects RX6 yX6_putJourney yX6_putJourney, Cond.code yX6_putJourney cX6_putJourney 4 none, Cond.methodLink RX6 63 yX7_stops, Cond.instanceMethod yX7_stops, Cond.selects RX7 yX7_stops yX7_stops, Cond.initialized RX7, Cond.code yX7_stops cX7_stops 3 (some .boolean), Cond.fieldLink RX7 40 "PetrolBoard$Orders" "head" "[I", Cond.methodLink RX7 57 yX7_holds]
def wsX6_unitsOf_r3 : List Cond := [Cond.instanceMethod yX7_holds, Cond.selects RX7 yX7_holds yX7_holds, Cond.code yX7_holds cX7_holds 3 (some .boolean), Cond.fieldLink RX7 48 "PetrolBoard$Orders" "second" "[I", Cond.fieldLink RX7 52 "PetrolBoard$Orders" "code" "[I", Cond.methodLink RX7 61 yX5_result, Cond.instanceMethod yX5_result, Cond.selects RX5 yX5_result yX5_result, Cond.initialized RX5, Cond.code yX5_result cX5_result 6 (some .int), Cond.methodLink RX5 18 Lib.Math.max.name, Cond.static Lib.Math.max.name, Cond.initialized "java/lang/Math", Cond.code Lib.Math.max.name Lib.Math.max.code 2 (some .int), Cond.fieldLink RX5 15 "PetrolBoard$Machine" "stack" "[I", Cond.methodLink RX5 24 yX5_nameValue, Cond.instanceMethod yX5_nameValue, Cond.selects RX5 yX5_nameValue yX5_nameValue, Cond.code yX5_nameValue cX5_nameValue 2 (some .int), Cond.fieldLink RX5 9 "PetrolBoard$Machine" "names" "[I", Cond.methodLink RX5 28 yX5_joined, Cond.static yX5_joined, Cond.code yX5_joined cX5_joined 5 (some .int), Cond.constantLong RX5 32 (-1000000000)]
def wsX6_unitsOf_r4 : List Cond := [Cond.constantLong RX5 34 (1000000000), Cond.methodLink RX5 36 Lib.MathLoose.min_long.x, Cond.static Lib.MathLoose.min_long.x, Cond.code Lib.MathLoose.min_long.x Lib.MathLoose.min_long.code 4 (some .long), Cond.methodLink RX5 40 Lib.MathLoose.max_long.x, Cond.static Lib.MathLoose.max_long.x, Cond.code Lib.MathLoose.max_long.x Lib.MathLoose.max_long.code 4 (some .long), Cond.methodLink RX6 67 yX7_dealt, Cond.instanceMethod yX7_dealt, Cond.selects RX7 yX7_dealt yX7_dealt, Cond.code yX7_dealt cX7_dealt 5 (some .int), Cond.fieldLink RX7 44 "PetrolBoard$Orders" "first" "[I", Cond.methodLink RX7 67 Lib.Math.min.name, Cond.static Lib.Math.min.name, Cond.code Lib.Math.min.name Lib.Math.min.code 2 (some .int), Cond.methodLink RX7 73 Lib.Math.max.name]
def wsX6_unitsOf : List Cond := .code yX6_unitsOf cX6_unitsOf 6 (some .int) :: ((wsX6_unitsOf_r1 ++ (wsX6_unitsOf_r2 ++ (wsX6_unitsOf_r3 ++ wsX6_unitsOf_r4))) ++ wsX60 ++ wsX70 ++ wsX20 ++ wsX50)
def wsX6_grant_r1 : List Cond := [Cond.fieldLink RX6 74 "PetrolBoard$Journeys" "asked" "[I", Cond.fieldLink RX6 78 "PetrolBoard$Journeys" "day" "[I", Cond.fieldLink RX6 81 "PetrolBoard$Journeys" "holder" "[I", Cond.fieldLink RX6 84 "PetrolBoard$Journeys" "miles" "[I", Cond.fieldLink RX6 87 "PetrolBoard$Journeys" "people" "[I", Cond.fieldLink RX6 90 "PetrolBoard$Journeys" "reason" "[I", Cond.fieldLink RX6 20 "PetrolBoard$OrderBook" "machine" "LPetrolBoard$Machine;", Cond.methodLink RX6 71 yX3_has, Cond.instanceMethod yX3_has, Cond.selects RX3 yX3_has yX3_has, Cond.initialized RX3, Cond.code yX3_has cX3_has 2 (some .boolean), Cond.fieldLink RX3 45 "PetrolBoard$Journeys" "number" "I", Cond.methodLink RX6 38 yX6_ordersOf, Cond.instanceMethod yX6_ordersOf, Cond.selects RX6 yX6_ordersOf yX6_ordersOf, Cond.initialized RX6, Cond.code yX6_ordersOf cX6_ordersOf 4 (some (.object "PetrolBoard$Orders")), Cond.fieldLink RX6 11 "PetrolBoard$OrderBook" "told" "[LPetrolBoard$Orders;", Cond.methodLink RX6 34 yX6_inForce, Cond.instanceMethod yX6_inForce, Cond.selects RX6 yX6_inForce yX6_inForce, Cond.code yX6_inForce cX6_inForce 8 (some .int), Cond.fieldLink RX6 24 "PetrolBoard$OrderBook" "number" "I"]
def wsX6_grant_r2 : List Cond := [Cond.fieldLink RX6 28 "PetrolBoard$Orders" "toldOn" "I", Cond.fieldLink RX6 31 "PetrolBoard$Orders" "month" "I", Cond.methodLink RX6 49 yX2_has, Cond.instanceMethod yX2_has, Cond.selects RX2 yX2_has yX2_has, Cond.initialized RX2, Cond.code yX2_has cX2_has 2 (some .boolean), Cond.fieldLink RX2 42 "PetrolBoard$Holders" "number" "I", Cond.methodLink RX6 55 yX6_putHolder, Cond.instanceMethod yX6_putHolder, Cond.selects RX6 yX6_putHolder yX6_putHolder, Cond.code yX6_putHolder cX6_putHolder 5 none, Cond.fieldLink RX6 93 "PetrolBoard$Machine" "names" "[I", Cond.fieldLink RX6 100 "PetrolBoard$Holders" "size" "[I", Cond.fieldLink RX6 103 "PetrolBoard$Holders" "town" "[I", Cond.methodLink RX6 96 yX2_kindOn, Cond.instanceMethod yX2_kindOn, Cond.selects RX2 yX2_kindOn yX2_kindOn, Cond.code yX2_kindOn cX2_kindOn 8 (some .int), Cond.fieldLink RX2 46 "PetrolBoard$Holders" "notes" "I", Cond.fieldLink RX2 27 "PetrolBoard$Holders" "noteOf" "[I", Cond.fieldLink RX2 33 "PetrolBoard$Holders" "from" "[I", Cond.fieldLink RX2 36 "PetrolBoard$Holders" "toldOn" "[I", Cond.fieldLink RX2 39 "PetrolBoard$Holders" "undoneOn" "[I"]
def wsX6_grant_r3 : List Cond := [Cond.fieldLink RX2 30 "PetrolBoard$Holders" "kind" "[I", Cond.methodLink RX6 59 yX6_putJourney, Cond.instanceMethod yX6_putJourney, Cond.selects RX6 yX6_putJourney yX6_putJourney, Cond.code yX6_putJourney cX6_putJourney 4 none, Cond.methodLink RX6 67 yX7_dealt, Cond.instanceMethod yX7_dealt, Cond.selects RX7 yX7_dealt yX7_dealt, Cond.initialized RX7, Cond.code yX7_dealt cX7_dealt 5 (some .int), Cond.fieldLink RX7 40 "PetrolBoard$Orders" "head" "[I", Cond.fieldLink RX7 44 "PetrolBoard$Orders" "first" "[I", Cond.fieldLink RX7 52 "PetrolBoard$Orders" "code" "[I", Cond.methodLink RX7 67 Lib.Math.min.name, Cond.static Lib.Math.min.name, Cond.initialized "java/lang/Math", Cond.code Lib.Math.min.name Lib.Math.min.code 2 (some .int), Cond.methodLink RX7 73 Lib.Math.max.name, Cond.static Lib.Math.max.name, Cond.code Lib.Math.max.name Lib.Math.max.code 2 (some .int), Cond.methodLink RX7 57 yX7_holds, Cond.instanceMethod yX7_holds, Cond.selects RX7 yX7_holds yX7_holds, Cond.code yX7_holds cX7_holds 3 (some .boolean)]
def wsX6_grant_r4 : List Cond := [Cond.fieldLink RX7 48 "PetrolBoard$Orders" "second" "[I", Cond.methodLink RX7 61 yX5_result, Cond.instanceMethod yX5_result, Cond.selects RX5 yX5_result yX5_result, Cond.initialized RX5, Cond.code yX5_result cX5_result 6 (some .int), Cond.methodLink RX5 18 Lib.Math.max.name, Cond.fieldLink RX5 15 "PetrolBoard$Machine" "stack" "[I", Cond.methodLink RX5 24 yX5_nameValue, Cond.instanceMethod yX5_nameValue, Cond.selects RX5 yX5_nameValue yX5_nameValue, Cond.code yX5_nameValue cX5_nameValue 2 (some .int), Cond.fieldLink RX5 9 "PetrolBoard$Machine" "names" "[I", Cond.methodLink RX5 28 yX5_joined, Cond.static yX5_joined, Cond.code yX5_joined cX5_joined 5 (some .int), Cond.constantLong RX5 32 (-1000000000), Cond.constantLong RX5 34 (1000000000), Cond.methodLink RX5 36 Lib.MathLoose.min_long.x, Cond.static Lib.MathLoose.min_long.x, Cond.code Lib.MathLoose.min_long.x Lib.MathLoose.min_long.code 4 (some .long), Cond.methodLink RX5 40 Lib.MathLoose.max_long.x, Cond.static Lib.MathLoose.max_long.x, Cond.code Lib.MathLoose.max_long.x Lib.MathLoose.max_long.code 4 (some .long)]
def wsX6_grant : List Cond := .code yX6_grant cX6_grant 6 (some .int) :: ((wsX6_grant_r1 ++ (wsX6_grant_r2 ++ (wsX6_grant_r3 ++ wsX6_grant_r4))) ++ wsX30 ++ wsX60 ++ wsX70 ++ wsX20 ++ wsX50)
def wsX11_within : List Cond := .code yX11_within cX11_within 3 (some .boolean) :: ([])
def wsJ7_copyOf_59c91 : List Cond := .code yJ7_copyOf_59c91 cJ7_copyOf_59c91 3 (some (.array .int)) :: ([.methodLink RJ7 316 ⟨"[I", "clone", "()Ljava/lang/Object;"⟩, .sameMethod "[I" "java/lang/Object" "clone" "()Ljava/lang/Object;", .native ⟨"java/lang/Object", "clone", "()Ljava/lang/Object;"⟩, .instanceMethod ⟨"java/lang/Object", "clone", "()Ljava/lang/Object;"⟩, .selects "[I" ⟨"[I", "clone", "()Ljava/lang/Object;"⟩ ⟨"java/lang/Object", "clone", "()Ljava/lang/Object;"⟩, .classLink RJ7 317 "[I", .arrayClass .int, .methodLink RJ7 304 Lib.Math.min.name, .static Lib.Math.min.name, .initialized "java/lang/Math", .code Lib.Math.min.name Lib.Math.min.code 2 (some .int), .methodLink RJ7 150 arraycopyName, .native arraycopyName, .static arraycopyName, .initialized "java/lang/System"])
def wsX7_init_r1 : List Cond := [Cond.methodLink RX7 3 objectInit, Cond.instanceMethod objectInit, Cond.code objectInit ⟨#[0xb1]⟩ 1 none, Cond.fieldLink RX7 9 "PetrolBoard$Orders" "month" "I", Cond.fieldLink RX7 15 "PetrolBoard$Orders" "toldOn" "I", Cond.fieldLink RX7 18 "PetrolBoard$Reader" "statements" "I", Cond.fieldLink RX7 27 "PetrolBoard$Reader" "used" "I", Cond.fieldLink RX7 30 "PetrolBoard$Reader" "head" "[I", Cond.fieldLink RX7 40 "PetrolBoard$Orders" "head" "[I", Cond.fieldLink RX7 41 "PetrolBoard$Reader" "first" "[I", Cond.fieldLink RX7 44 "PetrolBoard$Orders" "first" "[I", Cond.fieldLink RX7 45 "PetrolBoard$Reader" "second" "[I", Cond.fieldLink RX7 48 "PetrolBoard$Orders" "second" "[I", Cond.fieldLink RX7 49 "PetrolBoard$Reader" "code" "[I", Cond.fieldLink RX7 52 "PetrolBoard$Orders" "code" "[I", Cond.static yX11_within, Cond.initialized RX11, Cond.code yX11_within cX11_within 3 (some .boolean), Cond.methodLink RX7 34 yJ7_copyOf_59c91, Cond.static yJ7_copyOf_59c91, Cond.initialized RJ7, Cond.code yJ7_copyOf_59c91 cJ7_copyOf_59c91 3 (some (.array .int)), Cond.methodLink RJ7 316 ⟨"[I", "clone", "()Ljava/lang/Object;"⟩, Cond.sameMethod "[I" "java/lang/Object" "clone" "()Ljava/lang/Object;"]
def wsX7_init_r2 : List Cond := [Cond.native ⟨"java/lang/Object", "clone", "()Ljava/lang/Object;"⟩, Cond.instanceMethod ⟨"java/lang/Object", "clone", "()Ljava/lang/Object;"⟩, Cond.selects "[I" ⟨"[I", "clone", "()Ljava/lang/Object;"⟩ ⟨"java/lang/Object", "clone", "()Ljava/lang/Object;"⟩, Cond.classLink RJ7 317 "[I", Cond.arrayClass .int, Cond.methodLink RJ7 304 Lib.Math.min.name, Cond.static Lib.Math.min.name, Cond.initialized "java/lang/Math", Cond.code Lib.Math.min.name Lib.Math.min.code 2 (some .int), Cond.methodLink RJ7 150 arraycopyName, Cond.native arraycopyName, Cond.static arraycopyName, Cond.initialized "java/lang/System"]
def wsX7_init : List Cond := .code yX7_init cX7_init 6 none :: ((wsX7_init_r1 ++ wsX7_init_r2) ++ wsX70 ++ wsX90)
def wsX8_init : List Cond := .code yX8_init cX8_init 1 none :: ([.methodLink RX8 3 objectInit, .instanceMethod objectInit, .code objectInit ⟨#[0xb1]⟩ 1 none, .arrayClass .int, .fieldLink RX8 9 "PetrolBoard$Pours" "station" "[I", .fieldLink RX8 15 "PetrolBoard$Pours" "holder" "[I", .fieldLink RX8 18 "PetrolBoard$Pours" "coupon" "[I", .fieldLink RX8 21 "PetrolBoard$Pours" "day" "[I", .fieldLink RX8 24 "PetrolBoard$Pours" "tenths" "[I", .fieldLink RX8 27 "PetrolBoard$Pours" "verdict" "[I", .fieldLink RX8 30 "PetrolBoard$Pours" "dyed" "[I", .fieldLink RX8 33 "PetrolBoard$Pours" "ownerThen" "[I"] ++ wsX80)
def wsX8_has : List Cond := .code yX8_has cX8_has 2 (some .boolean) :: ([.fieldLink RX8 36 "PetrolBoard$Pours" "number" "I"] ++ wsX80)
def wsX8_add : List Cond := .code yX8_add cX8_add 5 (some .int) :: ([.fieldLink RX8 36 "PetrolBoard$Pours" "number" "I", .fieldLink RX8 9 "PetrolBoard$Pours" "station" "[I", .fieldLink RX8 15 "PetrolBoard$Pours" "holder" "[I", .fieldLink RX8 18 "PetrolBoard$Pours" "coupon" "[I", .fieldLink RX8 21 "PetrolBoard$Pours" "day" "[I", .fieldLink RX8 27 "PetrolBoard$Pours" "verdict" "[I"] ++ wsX80)
def wsX8_wasHandedIn : List Cond := .code yX8_wasHandedIn cX8_wasHandedIn 3 (some .boolean) :: ([.fieldLink RX8 36 "PetrolBoard$Pours" "number" "I", .fieldLink RX8 18 "PetrolBoard$Pours" "coupon" "[I", .fieldLink RX8 27 "PetrolBoard$Pours" "verdict" "[I"] ++ wsX80)
def wsX8_tell : List Cond := .code yX8_tell cX8_tell 3 (some .int) :: ([.fieldLink RX8 9 "PetrolBoard$Pours" "station" "[I", .fieldLink RX8 15 "PetrolBoard$Pours" "holder" "[I", .fieldLink RX8 18 "PetrolBoard$Pours" "coupon" "[I", .fieldLink RX8 21 "PetrolBoard$Pours" "day" "[I", .fieldLink RX8 24 "PetrolBoard$Pours" "tenths" "[I", .fieldLink RX8 27 "PetrolBoard$Pours" "verdict" "[I", .fieldLink RX8 30 "PetrolBoard$Pours" "dyed" "[I", .methodLink RX8 40 yX8_has, .instanceMethod yX8_has, .selects RX8 yX8_has yX8_has, .initialized RX8, .code yX8_has cX8_has 2 (some .boolean), .fieldLink RX8 36 "PetrolBoard$Pours" "number" "I"] ++ wsX80)
def wsX8_lastWasDyed : List Cond := .code yX8_lastWasDyed cX8_lastWasDyed 3 (some .boolean) :: ([.fieldLink RX8 36 "PetrolBoard$Pours" "number" "I", .methodLink RX8 44 Lib.Math.min.name, .static Lib.Math.min.name, .initialized "java/lang/Math", .code Lib.Math.min.name Lib.Math.min.code 2 (some .int), .fieldLink RX8 15 "PetrolBoard$Pours" "holder" "[I", .fieldLink RX8 30 "PetrolBoard$Pours" "dyed" "[I"] ++ wsX80)
def wsX8_counts : List Cond := .code yX8_counts cX8_counts 1 (some .boolean) :: ([])
def wsX8_given : List Cond := .code yX8_given cX8_given 6 (some .int) :: ([.methodLink RX8 50 Lib.Math.max.name, .static Lib.Math.max.name, .initialized "java/lang/Math", .code Lib.Math.max.name Lib.Math.max.code 2 (some .int), .fieldLink RX8 9 "PetrolBoard$Pours" "station" "[I", .fieldLink RX8 27 "PetrolBoard$Pours" "verdict" "[I", .fieldLink RX8 24 "PetrolBoard$Pours" "tenths" "[I", .methodLink RX8 53 yX8_counts, .static yX8_counts, .initialized RX8, .code yX8_counts cX8_counts 1 (some .boolean)] ++ wsX80)
def wsX8_judgedGood : List Cond := .code yX8_judgedGood cX8_judgedGood 3 (some .int) :: ([.fieldLink RX8 36 "PetrolBoard$Pours" "number" "I", .fieldLink RX8 27 "PetrolBoard$Pours" "verdict" "[I"] ++ wsX80)
def wsX8_judgedOtherwise : List Cond := .code yX8_judgedOtherwise cX8_judgedOtherwise 3 (some .int) :: ([.fieldLink RX8 36 "PetrolBoard$Pours" "number" "I", .fieldLink RX8 27 "PetrolBoard$Pours" "verdict" "[I"] ++ wsX80)
def wsX9_init : List Cond := .code yX9_init cX9_init 1 none :: ([.methodLink RX9 3 objectInit, .instanceMethod objectInit, .code objectInit ⟨#[0xb1]⟩ 1 none, .arrayClass .int, .fieldLink RX9 9 "PetrolBoard$Reader" "text" "[I", .fieldLink RX9 15 "PetrolBoard$Reader" "tokens" "[I", .fieldLink RX9 18 "PetrolBoard$Reader" "values" "[I", .fieldLink RX9 21 "PetrolBoard$Reader" "places" "[I", .fieldLink RX9 24 "PetrolBoard$Reader" "code" "[I", .fieldLink RX9 27 "PetrolBoard$Reader" "head" "[I", .fieldLink RX9 30 "PetrolBoard$Reader" "first" "[I", .fieldLink RX9 33 "PetrolBoard$Reader" "second" "[I"] ++ wsX90)
def wsX9_put : List Cond := .code yX9_put cX9_put 3 none :: ([.fieldLink RX9 36 "PetrolBoard$Reader" "taped" "I", .fieldLink RX9 9 "PetrolBoard$Reader" "text" "[I"] ++ wsX90)
def wsX9_isLetter : List Cond := .code yX9_isLetter cX9_isLetter 1 (some .boolean) :: ([])
def wsX9_isDigit : List Cond := .code yX9_isDigit cX9_isDigit 1 (some .boolean) :: ([])
def wsX9_endOf : List Cond := .code yX9_endOf cX9_endOf 5 (some .int) :: ([.fieldLink RX9 9 "PetrolBoard$Reader" "text" "[I", .methodLink RX9 131 yX9_isLetter, .static yX9_isLetter, .initialized RX9, .code yX9_isLetter cX9_isLetter 1 (some .boolean), .methodLink RX9 134 yX9_isDigit, .static yX9_isDigit, .code yX9_isDigit cX9_isDigit 1 (some .boolean)] ++ wsX90)
def wsX9_isBlank : List Cond := .code yX9_isBlank cX9_isBlank 1 (some .boolean) :: ([])
def wsX9_wordText : List Cond := .code yX9_wordText cX9_wordText 1 (some (.object "java/lang/String")) :: ([])
def wsJ0_coder_7d493 : List Cond := .code yJ0_coder_7d493 cJ0_coder_7d493 1 (some .byte) :: ([.fieldLink RJ0 38 "java/lang/String" "COMPACT_STRINGS" "Z", .fieldLink RJ0 15 "java/lang/String" "coder" "B"])
def wsJ0_length_8abf5 : List Cond := .code yJ0_length_8abf5 cJ0_length_8abf5 1 (some .int) :: ([.fieldLink RJ0 9 "java/lang/String" "value" "[B", .methodLink RJ0 335 yJ0_coder_7d493, .instanceMethod yJ0_coder_7d493, .selects RJ0 yJ0_coder_7d493 yJ0_coder_7d493, .initialized RJ0, .code yJ0_coder_7d493 cJ0_coder_7d493 1 (some .byte), .fieldLink RJ0 38 "java/lang/String" "COMPACT_STRINGS" "Z", .fieldLink RJ0 15 "java/lang/String" "coder" "B"])
def wsJ0_isLatin1_aae02 : List Cond := .code yJ0_isLatin1_aae02 cJ0_isLatin1_aae02 1 (some .boolean) :: ([.fieldLink RJ0 38 "java/lang/String" "COMPACT_STRINGS" "Z", .fieldLink RJ0 15 "java/lang/String" "coder" "B"])
def wsJ3_checkIndex_8e157 : List Cond := .code yJ3_checkIndex_8e157 cJ3_checkIndex_8e157 3 (some .int) :: ([])
def wsJ0_checkIndex_df160 : List Cond := .code yJ0_checkIndex_df160 cJ0_checkIndex_df160 2 none :: ([.fieldLink RJ0 1053 "jdk/internal/util/Preconditions" "SIOOBE_FORMATTER" "Ljava/util/function/BiFunction;", .methodLink RJ0 1059 yJ3_checkIndex_8e157, .static yJ3_checkIndex_8e157, .initialized RJ3, .code yJ3_checkIndex_8e157 cJ3_checkIndex_8e157 3 (some .int)])
def wsJ1_charAt_3b067 : List Cond := .code yJ1_charAt_3b067 cJ1_charAt_3b067 2 (some .char) :: ([.methodLink RJ1 9 yJ0_checkIndex_df160, .static yJ0_checkIndex_df160, .initialized RJ0, .code yJ0_checkIndex_df160 cJ0_checkIndex_df160 2 none, .fieldLink RJ0 1053 "jdk/internal/util/Preconditions" "SIOOBE_FORMATTER" "Ljava/util/function/BiFunction;", .methodLink RJ0 1059 yJ3_checkIndex_8e157, .static yJ3_checkIndex_8e157, .initialized RJ3, .code yJ3_checkIndex_8e157 cJ3_checkIndex_8e157 3 (some .int)])
def wsJ2_length_9d52b : List Cond := .code yJ2_length_9d52b cJ2_length_9d52b 1 (some .int) :: ([])
def wsJ2_checkIndex_2214a : List Cond := .code yJ2_checkIndex_2214a cJ2_checkIndex_2214a 2 none :: ([.methodLink RJ2 48 yJ2_length_9d52b, .static yJ2_length_9d52b, .initialized RJ2, .code yJ2_length_9d52b cJ2_length_9d52b 1 (some .int), .methodLink RJ2 414 yJ0_checkIndex_df160, .static yJ0_checkIndex_df160, .initialized RJ0, .code yJ0_checkIndex_df160 cJ0_checkIndex_df160 2 none, .fieldLink RJ0 1053 "jdk/internal/util/Preconditions" "SIOOBE_FORMATTER" "Ljava/util/function/BiFunction;", .methodLink RJ0 1059 yJ3_checkIndex_8e157, .static yJ3_checkIndex_8e157, .initialized RJ3, .code yJ3_checkIndex_8e157 cJ3_checkIndex_8e157 3 (some .int)])
def wsJ2_getChar_3b067 : List Cond := .code yJ2_getChar_3b067 cJ2_getChar_3b067 2 (some .char) :: ([.fieldLink RJ2 44 "java/lang/StringUTF16" "$assertionsDisabled" "Z", .fieldLink RJ2 59 "java/lang/StringUTF16" "HI_BYTE_SHIFT" "I", .fieldLink RJ2 63 "java/lang/StringUTF16" "LO_BYTE_SHIFT" "I", .methodLink RJ2 48 yJ2_length_9d52b, .static yJ2_length_9d52b, .initialized RJ2, .code yJ2_length_9d52b cJ2_length_9d52b 1 (some .int)])
def wsJ2_charAt_3b067 : List Cond := .code yJ2_charAt_3b067 cJ2_charAt_3b067 2 (some .char) :: ([.methodLink RJ2 67 yJ2_checkIndex_2214a, .static yJ2_checkIndex_2214a, .initialized RJ2, .code yJ2_checkIndex_2214a cJ2_checkIndex_2214a 2 none, .methodLink RJ2 48 yJ2_length_9d52b, .static yJ2_length_9d52b, .code yJ2_length_9d52b cJ2_length_9d52b 1 (some .int), .methodLink RJ2 414 yJ0_checkIndex_df160, .static yJ0_checkIndex_df160, .initialized RJ0, .code yJ0_checkIndex_df160 cJ0_checkIndex_df160 2 none, .fieldLink RJ0 1053 "jdk/internal/util/Preconditions" "SIOOBE_FORMATTER" "Ljava/util/function/BiFunction;", .methodLink RJ0 1059 yJ3_checkIndex_8e157, .static yJ3_checkIndex_8e157, .initialized RJ3, .code yJ3_checkIndex_8e157 cJ3_checkIndex_8e157 3 (some .int), .methodLink RJ2 71 yJ2_getChar_3b067, .static yJ2_getChar_3b067, .code yJ2_getChar_3b067 cJ2_getChar_3b067 2 (some .char), .fieldLink RJ2 44 "java/lang/StringUTF16" "$assertionsDisabled" "Z", .fieldLink RJ2 59 "java/lang/StringUTF16" "HI_BYTE_SHIFT" "I", .fieldLink RJ2 63 "java/lang/StringUTF16" "LO_BYTE_SHIFT" "I"])
def wsJ0_charAt_5068e_r1 : List Cond := [Cond.fieldLink RJ0 9 "java/lang/String" "value" "[B", Cond.methodLink RJ0 492 yJ0_isLatin1_aae02, Cond.instanceMethod yJ0_isLatin1_aae02, Cond.selects RJ0 yJ0_isLatin1_aae02 yJ0_isLatin1_aae02, Cond.initialized RJ0, Cond.code yJ0_isLatin1_aae02 cJ0_isLatin1_aae02 1 (some .boolean), Cond.fieldLink RJ0 38 "java/lang/String" "COMPACT_STRINGS" "Z", Cond.fieldLink RJ0 15 "java/lang/String" "coder" "B", Cond.methodLink RJ0 495 yJ1_charAt_3b067, Cond.static yJ1_charAt_3b067, Cond.initialized RJ1, Cond.code yJ1_charAt_3b067 cJ1_charAt_3b067 2 (some .char), Cond.methodLink RJ1 9 yJ0_checkIndex_df160, Cond.static yJ0_checkIndex_df160, Cond.code yJ0_checkIndex_df160 cJ0_checkIndex_df160 2 none, Cond.fieldLink RJ0 1053 "jdk/internal/util/Preconditions" "SIOOBE_FORMATTER" "Ljava/util/function/BiFunction;", Cond.methodLink RJ0 1059 yJ3_checkIndex_8e157, Cond.static yJ3_checkIndex_8e157, Cond.initialized RJ3, Cond.code yJ3_checkIndex_8e157 cJ3_checkIndex_8e157 3 (some .int), Cond.methodLink RJ0 498 yJ2_charAt_3b067, Cond.static yJ2_charAt_3b067, Cond.initialized RJ2, Cond.code yJ2_charAt_3b067 cJ2_charAt_3b067 2 (some .char)]
def wsJ0_charAt_5068e_r2 : List Cond := [Cond.methodLink RJ2 67 yJ2_checkIndex_2214a, Cond.static yJ2_checkIndex_2214a, Cond.code yJ2_checkIndex_2214a cJ2_checkIndex_2214a 2 none, Cond.methodLink RJ2 48 yJ2_length_9d52b, Cond.static yJ2_length_9d52b, Cond.code yJ2_length_9d52b cJ2_length_9d52b 1 (some .int), Cond.methodLink RJ2 414 yJ0_checkIndex_df160, Cond.methodLink RJ2 71 yJ2_getChar_3b067, Cond.static yJ2_getChar_3b067, Cond.code yJ2_getChar_3b067 cJ2_getChar_3b067 2 (some .char), Cond.fieldLink RJ2 44 "java/lang/StringUTF16" "$assertionsDisabled" "Z", Cond.fieldLink RJ2 59 "java/lang/StringUTF16" "HI_BYTE_SHIFT" "I", Cond.fieldLink RJ2 63 "java/lang/StringUTF16" "LO_BYTE_SHIFT" "I"]
def wsJ0_charAt_5068e : List Cond := .code yJ0_charAt_5068e cJ0_charAt_5068e 2 (some .char) :: ((wsJ0_charAt_5068e_r1 ++ wsJ0_charAt_5068e_r2))
def wsX9_isWord_r1 : List Cond := [Cond.fieldLink RX9 9 "PetrolBoard$Reader" "text" "[I", Cond.methodLink RX9 151 yJ0_length_8abf5, Cond.instanceMethod yJ0_length_8abf5, Cond.selects RJ0 yJ0_length_8abf5 yJ0_length_8abf5, Cond.initialized RJ0, Cond.code yJ0_length_8abf5 cJ0_length_8abf5 1 (some .int), Cond.fieldLink RJ0 9 "java/lang/String" "value" "[B", Cond.methodLink RJ0 335 yJ0_coder_7d493, Cond.instanceMethod yJ0_coder_7d493, Cond.selects RJ0 yJ0_coder_7d493 yJ0_coder_7d493, Cond.code yJ0_coder_7d493 cJ0_coder_7d493 1 (some .byte), Cond.fieldLink RJ0 38 "java/lang/String" "COMPACT_STRINGS" "Z", Cond.fieldLink RJ0 15 "java/lang/String" "coder" "B", Cond.methodLink RX9 156 yJ0_charAt_5068e, Cond.instanceMethod yJ0_charAt_5068e, Cond.selects RJ0 yJ0_charAt_5068e yJ0_charAt_5068e, Cond.code yJ0_charAt_5068e cJ0_charAt_5068e 2 (some .char), Cond.methodLink RJ0 492 yJ0_isLatin1_aae02, Cond.instanceMethod yJ0_isLatin1_aae02, Cond.selects RJ0 yJ0_isLatin1_aae02 yJ0_isLatin1_aae02, Cond.code yJ0_isLatin1_aae02 cJ0_isLatin1_aae02 1 (some .boolean), Cond.methodLink RJ0 495 yJ1_charAt_3b067, Cond.static yJ1_charAt_3b067, Cond.initialized RJ1]
def wsX9_isWord_r2 : List Cond := [Cond.code yJ1_charAt_3b067 cJ1_charAt_3b067 2 (some .char), Cond.methodLink RJ1 9 yJ0_checkIndex_df160, Cond.static yJ0_checkIndex_df160, Cond.code yJ0_checkIndex_df160 cJ0_checkIndex_df160 2 none, Cond.fieldLink RJ0 1053 "jdk/internal/util/Preconditions" "SIOOBE_FORMATTER" "Ljava/util/function/BiFunction;", Cond.methodLink RJ0 1059 yJ3_checkIndex_8e157, Cond.static yJ3_checkIndex_8e157, Cond.initialized RJ3, Cond.code yJ3_checkIndex_8e157 cJ3_checkIndex_8e157 3 (some .int), Cond.methodLink RJ0 498 yJ2_charAt_3b067, Cond.static yJ2_charAt_3b067, Cond.initialized RJ2, Cond.code yJ2_charAt_3b067 cJ2_charAt_3b067 2 (some .char), Cond.methodLink RJ2 67 yJ2_checkIndex_2214a, Cond.static yJ2_checkIndex_2214a, Cond.code yJ2_checkIndex_2214a cJ2_checkIndex_2214a 2 none, Cond.methodLink RJ2 48 yJ2_length_9d52b, Cond.static yJ2_length_9d52b, Cond.code yJ2_length_9d52b cJ2_length_9d52b 1 (some .int), Cond.methodLink RJ2 414 yJ0_checkIndex_df160, Cond.methodLink RJ2 71 yJ2_getChar_3b067, Cond.static yJ2_getChar_3b067, Cond.code yJ2_getChar_3b067 cJ2_getChar_3b067 2 (some .char), Cond.fieldLink RJ2 44 "java/lang/StringUTF16" "$assertionsDisabled" "Z"]
def wsX9_isWord_r3 : List Cond := [Cond.fieldLink RJ2 59 "java/lang/StringUTF16" "HI_BYTE_SHIFT" "I", Cond.fieldLink RJ2 63 "java/lang/StringUTF16" "LO_BYTE_SHIFT" "I"]
def wsX9_isWord : List Cond := .code yX9_isWord cX9_isWord 5 (some .boolean) :: ((wsX9_isWord_r1 ++ (wsX9_isWord_r2 ++ wsX9_isWord_r3)) ++ wsX90)
def wsX9_wordOf_r1 : List Cond := [Cond.methodLink RX9 143 yX9_wordText, Cond.static yX9_wordText, Cond.initialized RX9, Cond.code yX9_wordText cX9_wordText 1 (some (.object "java/lang/String")), Cond.methodLink RX9 147 yX9_isWord, Cond.instanceMethod yX9_isWord, Cond.selects RX9 yX9_isWord yX9_isWord, Cond.code yX9_isWord cX9_isWord 5 (some .boolean), Cond.fieldLink RX9 9 "PetrolBoard$Reader" "text" "[I", Cond.methodLink RX9 151 yJ0_length_8abf5, Cond.instanceMethod yJ0_length_8abf5, Cond.selects RJ0 yJ0_length_8abf5 yJ0_length_8abf5, Cond.initialized RJ0, Cond.code yJ0_length_8abf5 cJ0_length_8abf5 1 (some .int), Cond.fieldLink RJ0 9 "java/lang/String" "value" "[B", Cond.methodLink RJ0 335 yJ0_coder_7d493, Cond.instanceMethod yJ0_coder_7d493, Cond.selects RJ0 yJ0_coder_7d493 yJ0_coder_7d493, Cond.code yJ0_coder_7d493 cJ0_coder_7d493 1 (some .byte), Cond.fieldLink RJ0 38 "java/lang/String" "COMPACT_STRINGS" "Z", Cond.fieldLink RJ0 15 "java/lang/String" "coder" "B", Cond.methodLink RX9 156 yJ0_charAt_5068e, Cond.instanceMethod yJ0_charAt_5068e, Cond.selects RJ0 yJ0_charAt_5068e yJ0_charAt_5068e]
def wsX9_wordOf_r2 : List Cond := [Cond.code yJ0_charAt_5068e cJ0_charAt_5068e 2 (some .char), Cond.methodLink RJ0 492 yJ0_isLatin1_aae02, Cond.instanceMethod yJ0_isLatin1_aae02, Cond.selects RJ0 yJ0_isLatin1_aae02 yJ0_isLatin1_aae02, Cond.code yJ0_isLatin1_aae02 cJ0_isLatin1_aae02 1 (some .boolean), Cond.methodLink RJ0 495 yJ1_charAt_3b067, Cond.static yJ1_charAt_3b067, Cond.initialized RJ1, Cond.code yJ1_charAt_3b067 cJ1_charAt_3b067 2 (some .char), Cond.methodLink RJ1 9 yJ0_checkIndex_df160, Cond.static yJ0_checkIndex_df160, Cond.code yJ0_checkIndex_df160 cJ0_checkIndex_df160 2 none, Cond.fieldLink RJ0 1053 "jdk/internal/util/Preconditions" "SIOOBE_FORMATTER" "Ljava/util/function/BiFunction;", Cond.methodLink RJ0 1059 yJ3_checkIndex_8e157, Cond.static yJ3_checkIndex_8e157, Cond.initialized RJ3, Cond.code yJ3_checkIndex_8e157 cJ3_checkIndex_8e157 3 (some .int), Cond.methodLink RJ0 498 yJ2_charAt_3b067, Cond.static yJ2_charAt_3b067, Cond.initialized RJ2, Cond.code yJ2_charAt_3b067 cJ2_charAt_3b067 2 (some .char), Cond.methodLink RJ2 67 yJ2_checkIndex_2214a, Cond.static yJ2_checkIndex_2214a, Cond.code yJ2_checkIndex_2214a cJ2_checkIndex_2214a 2 none]
def wsX9_wordOf_r3 : List Cond := [Cond.methodLink RJ2 48 yJ2_length_9d52b, Cond.static yJ2_length_9d52b, Cond.code yJ2_length_9d52b cJ2_length_9d52b 1 (some .int), Cond.methodLink RJ2 414 yJ0_checkIndex_df160, Cond.methodLink RJ2 71 yJ2_getChar_3b067, Cond.static yJ2_getChar_3b067, Cond.code yJ2_getChar_3b067 cJ2_getChar_3b067 2 (some .char), Cond.fieldLink RJ2 44 "java/lang/StringUTF16" "$assertionsDisabled" "Z", Cond.fieldLink RJ2 59 "java/lang/StringUTF16" "HI_BYTE_SHIFT" "I", Cond.fieldLink RJ2 63 "java/lang/StringUTF16" "LO_BYTE_SHIFT" "I"]
def wsX9_wordOf : List Cond := .code yX9_wordOf cX9_wordOf 4 (some .int) :: ((wsX9_wordOf_r1 ++ (wsX9_wordOf_r2 ++ wsX9_wordOf_r3)) ++ wsX90)
def wsX9_isSign : List Cond := .code yX9_isSign cX9_isSign 1 (some .boolean) :: ([])
def wsX9_tokenOf_r1 : List Cond := [Cond.fieldLink RX9 9 "PetrolBoard$Reader" "text" "[I", Cond.methodLink RX9 131 yX9_isLetter, Cond.static yX9_isLetter, Cond.initialized RX9, Cond.code yX9_isLetter cX9_isLetter 1 (some .boolean), Cond.methodLink RX9 137 yX9_wordOf, Cond.instanceMethod yX9_wordOf, Cond.selects RX9 yX9_wordOf yX9_wordOf, Cond.code yX9_wordOf cX9_wordOf 4 (some .int), Cond.methodLink RX9 143 yX9_wordText, Cond.static yX9_wordText, Cond.code yX9_wordText cX9_wordText 1 (some (.object "java/lang/String")), Cond.methodLink RX9 147 yX9_isWord, Cond.instanceMethod yX9_isWord, Cond.selects RX9 yX9_isWord yX9_isWord, Cond.code yX9_isWord cX9_isWord 5 (some .boolean), Cond.methodLink RX9 151 yJ0_length_8abf5, Cond.instanceMethod yJ0_length_8abf5, Cond.selects RJ0 yJ0_length_8abf5 yJ0_length_8abf5, Cond.initialized RJ0, Cond.code yJ0_length_8abf5 cJ0_length_8abf5 1 (some .int), Cond.fieldLink RJ0 9 "java/lang/String" "value" "[B", Cond.methodLink RJ0 335 yJ0_coder_7d493, Cond.instanceMethod yJ0_coder_7d493]
def wsX9_tokenOf_r2 : List Cond := [Cond.selects RJ0 yJ0_coder_7d493 yJ0_coder_7d493, Cond.code yJ0_coder_7d493 cJ0_coder_7d493 1 (some .byte), Cond.fieldLink RJ0 38 "java/lang/String" "COMPACT_STRINGS" "Z", Cond.fieldLink RJ0 15 "java/lang/String" "coder" "B", Cond.methodLink RX9 156 yJ0_charAt_5068e, Cond.instanceMethod yJ0_charAt_5068e, Cond.selects RJ0 yJ0_charAt_5068e yJ0_charAt_5068e, Cond.code yJ0_charAt_5068e cJ0_charAt_5068e 2 (some .char), Cond.methodLink RJ0 492 yJ0_isLatin1_aae02, Cond.instanceMethod yJ0_isLatin1_aae02, Cond.selects RJ0 yJ0_isLatin1_aae02 yJ0_isLatin1_aae02, Cond.code yJ0_isLatin1_aae02 cJ0_isLatin1_aae02 1 (some .boolean), Cond.methodLink RJ0 495 yJ1_charAt_3b067, Cond.static yJ1_charAt_3b067, Cond.initialized RJ1, Cond.code yJ1_charAt_3b067 cJ1_charAt_3b067 2 (some .char), Cond.methodLink RJ1 9 yJ0_checkIndex_df160, Cond.static yJ0_checkIndex_df160, Cond.code yJ0_checkIndex_df160 cJ0_checkIndex_df160 2 none, Cond.fieldLink RJ0 1053 "jdk/internal/util/Preconditions" "SIOOBE_FORMATTER" "Ljava/util/function/BiFunction;", Cond.methodLink RJ0 1059 yJ3_checkIndex_8e157, Cond.static yJ3_checkIndex_8e157, Cond.initialized RJ3, Cond.code yJ3_checkIndex_8e157 cJ3_checkIndex_8e157 3 (some .int)]
def wsX9_tokenOf_r3 : List Cond := [Cond.methodLink RJ0 498 yJ2_charAt_3b067, Cond.static yJ2_charAt_3b067, Cond.initialized RJ2, Cond.code yJ2_charAt_3b067 cJ2_charAt_3b067 2 (some .char), Cond.methodLink RJ2 67 yJ2_checkIndex_2214a, Cond.static yJ2_checkIndex_2214a, Cond.code yJ2_checkIndex_2214a cJ2_checkIndex_2214a 2 none, Cond.methodLink RJ2 48 yJ2_length_9d52b, Cond.static yJ2_length_9d52b, Cond.code yJ2_length_9d52b cJ2_length_9d52b 1 (some .int), Cond.methodLink RJ2 414 yJ0_checkIndex_df160, Cond.methodLink RJ2 71 yJ2_getChar_3b067, Cond.static yJ2_getChar_3b067, Cond.code yJ2_getChar_3b067 cJ2_getChar_3b067 2 (some .char), Cond.fieldLink RJ2 44 "java/lang/StringUTF16" "$assertionsDisabled" "Z", Cond.fieldLink RJ2 59 "java/lang/StringUTF16" "HI_BYTE_SHIFT" "I", Cond.fieldLink RJ2 63 "java/lang/StringUTF16" "LO_BYTE_SHIFT" "I", Cond.methodLink RX9 134 yX9_isDigit, Cond.static yX9_isDigit, Cond.code yX9_isDigit cX9_isDigit 1 (some .boolean), Cond.methodLink RX9 140 yX9_isSign, Cond.static yX9_isSign, Cond.code yX9_isSign cX9_isSign 1 (some .boolean)]
def wsX9_tokenOf : List Cond := .code yX9_tokenOf cX9_tokenOf 4 (some .int) :: ((wsX9_tokenOf_r1 ++ (wsX9_tokenOf_r2 ++ wsX9_tokenOf_r3)) ++ wsX90)
def wsX9_numberOf : List Cond := .code yX9_numberOf cX9_numberOf 5 (some .int) :: ([.methodLink RX9 128 Lib.Math.max.name, .static Lib.Math.max.name, .initialized "java/lang/Math", .code Lib.Math.max.name Lib.Math.max.code 2 (some .int), .fieldLink RX9 9 "PetrolBoard$Reader" "text" "[I", .methodLink RX9 134 yX9_isDigit, .static yX9_isDigit, .initialized RX9, .code yX9_isDigit cX9_isDigit 1 (some .boolean)] ++ wsX90)
def wsX9_addToken : List Cond := .code yX9_addToken cX9_addToken 4 none :: ([.fieldLink RX9 76 "PetrolBoard$Reader" "scanned" "I", .fieldLink RX9 15 "PetrolBoard$Reader" "tokens" "[I", .fieldLink RX9 21 "PetrolBoard$Reader" "places" "[I", .fieldLink RX9 18 "PetrolBoard$Reader" "values" "[I"] ++ wsX90)
def wsX9_scan_r1 : List Cond := [Cond.fieldLink RX9 9 "PetrolBoard$Reader" "text" "[I", Cond.methodLink RX9 40 Lib.Math.min.name, Cond.static Lib.Math.min.name, Cond.initialized "java/lang/Math", Cond.code Lib.Math.min.name Lib.Math.min.code 2 (some .int), Cond.fieldLink RX9 76 "PetrolBoard$Reader" "scanned" "I", Cond.methodLink RX9 128 Lib.Math.max.name, Cond.static Lib.Math.max.name, Cond.code Lib.Math.max.name Lib.Math.max.code 2 (some .int), Cond.methodLink RX9 112 yX9_endOf, Cond.instanceMethod yX9_endOf, Cond.selects RX9 yX9_endOf yX9_endOf, Cond.initialized RX9, Cond.code yX9_endOf cX9_endOf 5 (some .int), Cond.methodLink RX9 131 yX9_isLetter, Cond.static yX9_isLetter, Cond.code yX9_isLetter cX9_isLetter 1 (some .boolean), Cond.methodLink RX9 134 yX9_isDigit, Cond.static yX9_isDigit, Cond.code yX9_isDigit cX9_isDigit 1 (some .boolean), Cond.methodLink RX9 115 yX9_isBlank, Cond.static yX9_isBlank, Cond.code yX9_isBlank cX9_isBlank 1 (some .boolean), Cond.methodLink RX9 118 yX9_tokenOf]
def wsX9_scan_r2 : List Cond := [Cond.instanceMethod yX9_tokenOf, Cond.selects RX9 yX9_tokenOf yX9_tokenOf, Cond.code yX9_tokenOf cX9_tokenOf 4 (some .int), Cond.methodLink RX9 137 yX9_wordOf, Cond.instanceMethod yX9_wordOf, Cond.selects RX9 yX9_wordOf yX9_wordOf, Cond.code yX9_wordOf cX9_wordOf 4 (some .int), Cond.methodLink RX9 143 yX9_wordText, Cond.static yX9_wordText, Cond.code yX9_wordText cX9_wordText 1 (some (.object "java/lang/String")), Cond.methodLink RX9 147 yX9_isWord, Cond.instanceMethod yX9_isWord, Cond.selects RX9 yX9_isWord yX9_isWord, Cond.code yX9_isWord cX9_isWord 5 (some .boolean), Cond.methodLink RX9 151 yJ0_length_8abf5, Cond.instanceMethod yJ0_length_8abf5, Cond.selects RJ0 yJ0_length_8abf5 yJ0_length_8abf5, Cond.initialized RJ0, Cond.code yJ0_length_8abf5 cJ0_length_8abf5 1 (some .int), Cond.fieldLink RJ0 9 "java/lang/String" "value" "[B", Cond.methodLink RJ0 335 yJ0_coder_7d493, Cond.instanceMethod yJ0_coder_7d493, Cond.selects RJ0 yJ0_coder_7d493 yJ0_coder_7d493, Cond.code yJ0_coder_7d493 cJ0_coder_7d493 1 (some .byte)]
def wsX9_scan_r3 : List Cond := [Cond.fieldLink RJ0 38 "java/lang/String" "COMPACT_STRINGS" "Z", Cond.fieldLink RJ0 15 "java/lang/String" "coder" "B", Cond.methodLink RX9 156 yJ0_charAt_5068e, Cond.instanceMethod yJ0_charAt_5068e, Cond.selects RJ0 yJ0_charAt_5068e yJ0_charAt_5068e, Cond.code yJ0_charAt_5068e cJ0_charAt_5068e 2 (some .char), Cond.methodLink RJ0 492 yJ0_isLatin1_aae02, Cond.instanceMethod yJ0_isLatin1_aae02, Cond.selects RJ0 yJ0_isLatin1_aae02 yJ0_isLatin1_aae02, Cond.code yJ0_isLatin1_aae02 cJ0_isLatin1_aae02 1 (some .boolean), Cond.methodLink RJ0 495 yJ1_charAt_3b067, Cond.static yJ1_charAt_3b067, Cond.initialized RJ1, Cond.code yJ1_charAt_3b067 cJ1_charAt_3b067 2 (some .char), Cond.methodLink RJ1 9 yJ0_checkIndex_df160, Cond.static yJ0_checkIndex_df160, Cond.code yJ0_checkIndex_df160 cJ0_checkIndex_df160 2 none, Cond.fieldLink RJ0 1053 "jdk/internal/util/Preconditions" "SIOOBE_FORMATTER" "Ljava/util/function/BiFunction;", Cond.methodLink RJ0 1059 yJ3_checkIndex_8e157, Cond.static yJ3_checkIndex_8e157, Cond.initialized RJ3, Cond.code yJ3_checkIndex_8e157 cJ3_checkIndex_8e157 3 (some .int), Cond.methodLink RJ0 498 yJ2_charAt_3b067, Cond.static yJ2_charAt_3b067]
def wsX9_scan_r4 : List Cond := [Cond.initialized RJ2, Cond.code yJ2_charAt_3b067 cJ2_charAt_3b067 2 (some .char), Cond.methodLink RJ2 67 yJ2_checkIndex_2214a, Cond.static yJ2_checkIndex_2214a, Cond.code yJ2_checkIndex_2214a cJ2_checkIndex_2214a 2 none, Cond.methodLink RJ2 48 yJ2_length_9d52b, Cond.static yJ2_length_9d52b, Cond.code yJ2_length_9d52b cJ2_length_9d52b 1 (some .int), Cond.methodLink RJ2 414 yJ0_checkIndex_df160, Cond.methodLink RJ2 71 yJ2_getChar_3b067, Cond.static yJ2_getChar_3b067, Cond.code yJ2_getChar_3b067 cJ2_getChar_3b067 2 (some .char), Cond.fieldLink RJ2 44 "java/lang/StringUTF16" "$assertionsDisabled" "Z", Cond.fieldLink RJ2 59 "java/lang/StringUTF16" "HI_BYTE_SHIFT" "I", Cond.fieldLink RJ2 63 "java/lang/StringUTF16" "LO_BYTE_SHIFT" "I", Cond.methodLink RX9 140 yX9_isSign, Cond.static yX9_isSign, Cond.code yX9_isSign cX9_isSign 1 (some .boolean), Cond.methodLink RX9 121 yX9_numberOf, Cond.instanceMethod yX9_numberOf, Cond.selects RX9 yX9_numberOf yX9_numberOf, Cond.code yX9_numberOf cX9_numberOf 5 (some .int), Cond.methodLink RX9 124 yX9_addToken, Cond.instanceMethod yX9_addToken]
def wsX9_scan_r5 : List Cond := [Cond.selects RX9 yX9_addToken yX9_addToken, Cond.code yX9_addToken cX9_addToken 4 none, Cond.fieldLink RX9 15 "PetrolBoard$Reader" "tokens" "[I", Cond.fieldLink RX9 21 "PetrolBoard$Reader" "places" "[I", Cond.fieldLink RX9 18 "PetrolBoard$Reader" "values" "[I"]
def wsX9_scan : List Cond := .code yX9_scan cX9_scan 5 none :: ((wsX9_scan_r1 ++ (wsX9_scan_r2 ++ (wsX9_scan_r3 ++ (wsX9_scan_r4 ++ wsX9_scan_r5)))) ++ wsX90)
def wsX9_step : List Cond := .code yX9_step cX9_step 1 none :: ([.fieldLink RX9 56 "PetrolBoard$Reader" "at" "I", .fieldLink RX9 76 "PetrolBoard$Reader" "scanned" "I", .fieldLink RX9 15 "PetrolBoard$Reader" "tokens" "[I", .fieldLink RX9 62 "PetrolBoard$Reader" "token" "I"] ++ wsX90)
def wsX9_numberHere : List Cond := .code yX9_numberHere cX9_numberHere 1 (some .int) :: ([.fieldLink RX9 56 "PetrolBoard$Reader" "at" "I", .fieldLink RX9 18 "PetrolBoard$Reader" "values" "[I"] ++ wsX90)
def wsX9_emit : List Cond := .code yX9_emit cX9_emit 2 none :: ([.fieldLink RX9 50 "PetrolBoard$Reader" "used" "I", .fieldLink RX9 24 "PetrolBoard$Reader" "code" "[I"] ++ wsX90)
def wsX9_taken : List Cond := .code yX9_taken cX9_taken 2 (some .boolean) :: ([.fieldLink RX9 62 "PetrolBoard$Reader" "token" "I", .methodLink RX9 59 yX9_step, .instanceMethod yX9_step, .selects RX9 yX9_step yX9_step, .initialized RX9, .code yX9_step cX9_step 1 none, .fieldLink RX9 56 "PetrolBoard$Reader" "at" "I", .fieldLink RX9 76 "PetrolBoard$Reader" "scanned" "I", .fieldLink RX9 15 "PetrolBoard$Reader" "tokens" "[I"] ++ wsX90)
def wsX9_atom_r1 : List Cond := [Cond.fieldLink RX9 62 "PetrolBoard$Reader" "token" "I", Cond.methodLink RX9 94 yX9_numberHere, Cond.instanceMethod yX9_numberHere, Cond.selects RX9 yX9_numberHere yX9_numberHere, Cond.initialized RX9, Cond.code yX9_numberHere cX9_numberHere 1 (some .int), Cond.fieldLink RX9 56 "PetrolBoard$Reader" "at" "I", Cond.fieldLink RX9 18 "PetrolBoard$Reader" "values" "[I", Cond.methodLink RX9 82 yX9_emit, Cond.instanceMethod yX9_emit, Cond.selects RX9 yX9_emit yX9_emit, Cond.code yX9_emit cX9_emit 2 none, Cond.fieldLink RX9 50 "PetrolBoard$Reader" "used" "I", Cond.fieldLink RX9 24 "PetrolBoard$Reader" "code" "[I", Cond.methodLink RX9 59 yX9_step, Cond.instanceMethod yX9_step, Cond.selects RX9 yX9_step yX9_step, Cond.code yX9_step cX9_step 1 none, Cond.fieldLink RX9 76 "PetrolBoard$Reader" "scanned" "I", Cond.fieldLink RX9 15 "PetrolBoard$Reader" "tokens" "[I", Cond.methodLink RX9 79 yX9_sum, Cond.instanceMethod yX9_sum, Cond.selects RX9 yX9_sum yX9_sum, Cond.methodLink RX9 69 yX9_taken]
def wsX9_atom_r2 : List Cond := [Cond.instanceMethod yX9_taken, Cond.selects RX9 yX9_taken yX9_taken, Cond.code yX9_taken cX9_taken 2 (some .boolean), Cond.code yX9_product cX9_product 4 (some .boolean), Cond.methodLink RX9 109 yX9_atom, Cond.instanceMethod yX9_atom, Cond.selects RX9 yX9_atom yX9_atom, Cond.code yX9_sum cX9_sum 4 (some .boolean), Cond.methodLink RX9 106 yX9_product, Cond.instanceMethod yX9_product, Cond.selects RX9 yX9_product yX9_product]
def wsX9_atom : List Cond := .code yX9_atom cX9_atom 3 (some .boolean) :: ((wsX9_atom_r1 ++ wsX9_atom_r2) ++ wsX90)
def wsX9_product_r1 : List Cond := [Cond.fieldLink RX9 62 "PetrolBoard$Reader" "token" "I", Cond.methodLink RX9 109 yX9_atom, Cond.instanceMethod yX9_atom, Cond.selects RX9 yX9_atom yX9_atom, Cond.initialized RX9, Cond.methodLink RX9 59 yX9_step, Cond.instanceMethod yX9_step, Cond.selects RX9 yX9_step yX9_step, Cond.code yX9_step cX9_step 1 none, Cond.fieldLink RX9 56 "PetrolBoard$Reader" "at" "I", Cond.fieldLink RX9 76 "PetrolBoard$Reader" "scanned" "I", Cond.fieldLink RX9 15 "PetrolBoard$Reader" "tokens" "[I", Cond.methodLink RX9 82 yX9_emit, Cond.instanceMethod yX9_emit, Cond.selects RX9 yX9_emit yX9_emit, Cond.code yX9_emit cX9_emit 2 none, Cond.fieldLink RX9 50 "PetrolBoard$Reader" "used" "I", Cond.fieldLink RX9 24 "PetrolBoard$Reader" "code" "[I", Cond.code yX9_atom cX9_atom 3 (some .boolean), Cond.methodLink RX9 94 yX9_numberHere, Cond.instanceMethod yX9_numberHere, Cond.selects RX9 yX9_numberHere yX9_numberHere, Cond.code yX9_numberHere cX9_numberHere 1 (some .int), Cond.fieldLink RX9 18 "PetrolBoard$Reader" "values" "[I"]
def wsX9_product_r2 : List Cond := [Cond.methodLink RX9 79 yX9_sum, Cond.instanceMethod yX9_sum, Cond.selects RX9 yX9_sum yX9_sum, Cond.methodLink RX9 69 yX9_taken, Cond.instanceMethod yX9_taken, Cond.selects RX9 yX9_taken yX9_taken, Cond.code yX9_taken cX9_taken 2 (some .boolean), Cond.code yX9_sum cX9_sum 4 (some .boolean), Cond.methodLink RX9 106 yX9_product, Cond.instanceMethod yX9_product, Cond.selects RX9 yX9_product yX9_product]
def wsX9_product : List Cond := .code yX9_product cX9_product 4 (some .boolean) :: ((wsX9_product_r1 ++ wsX9_product_r2) ++ wsX90)
def wsX9_sum_r1 : List Cond := [Cond.fieldLink RX9 62 "PetrolBoard$Reader" "token" "I", Cond.methodLink RX9 106 yX9_product, Cond.instanceMethod yX9_product, Cond.selects RX9 yX9_product yX9_product, Cond.initialized RX9, Cond.methodLink RX9 59 yX9_step, Cond.instanceMethod yX9_step, Cond.selects RX9 yX9_step yX9_step, Cond.code yX9_step cX9_step 1 none, Cond.fieldLink RX9 56 "PetrolBoard$Reader" "at" "I", Cond.fieldLink RX9 76 "PetrolBoard$Reader" "scanned" "I", Cond.fieldLink RX9 15 "PetrolBoard$Reader" "tokens" "[I", Cond.methodLink RX9 82 yX9_emit, Cond.instanceMethod yX9_emit, Cond.selects RX9 yX9_emit yX9_emit, Cond.code yX9_emit cX9_emit 2 none, Cond.fieldLink RX9 50 "PetrolBoard$Reader" "used" "I", Cond.fieldLink RX9 24 "PetrolBoard$Reader" "code" "[I", Cond.code yX9_atom cX9_atom 3 (some .boolean), Cond.methodLink RX9 94 yX9_numberHere, Cond.instanceMethod yX9_numberHere, Cond.selects RX9 yX9_numberHere yX9_numberHere, Cond.code yX9_numberHere cX9_numberHere 1 (some .int), Cond.fieldLink RX9 18 "PetrolBoard$Reader" "values" "[I"]
def wsX9_sum_r2 : List Cond := [Cond.methodLink RX9 79 yX9_sum, Cond.instanceMethod yX9_sum, Cond.selects RX9 yX9_sum yX9_sum, Cond.methodLink RX9 69 yX9_taken, Cond.instanceMethod yX9_taken, Cond.selects RX9 yX9_taken yX9_taken, Cond.code yX9_taken cX9_taken 2 (some .boolean), Cond.code yX9_product cX9_product 4 (some .boolean), Cond.methodLink RX9 109 yX9_atom, Cond.instanceMethod yX9_atom, Cond.selects RX9 yX9_atom yX9_atom]
def wsX9_sum : List Cond := .code yX9_sum cX9_sum 4 (some .boolean) :: ((wsX9_sum_r1 ++ wsX9_sum_r2) ++ wsX90)
def wsX9_all_r1 : List Cond := [Cond.fieldLink RX9 62 "PetrolBoard$Reader" "token" "I", Cond.methodLink RX9 100 yX9_one, Cond.instanceMethod yX9_one, Cond.selects RX9 yX9_one yX9_one, Cond.initialized RX9, Cond.methodLink RX9 59 yX9_step, Cond.instanceMethod yX9_step, Cond.selects RX9 yX9_step yX9_step, Cond.code yX9_step cX9_step 1 none, Cond.fieldLink RX9 56 "PetrolBoard$Reader" "at" "I", Cond.fieldLink RX9 76 "PetrolBoard$Reader" "scanned" "I", Cond.fieldLink RX9 15 "PetrolBoard$Reader" "tokens" "[I", Cond.methodLink RX9 82 yX9_emit, Cond.instanceMethod yX9_emit, Cond.selects RX9 yX9_emit yX9_emit, Cond.code yX9_emit cX9_emit 2 none, Cond.fieldLink RX9 50 "PetrolBoard$Reader" "used" "I", Cond.fieldLink RX9 24 "PetrolBoard$Reader" "code" "[I", Cond.code yX9_either cX9_either 3 (some .boolean), Cond.methodLink RX9 97 yX9_all, Cond.instanceMethod yX9_all, Cond.selects RX9 yX9_all yX9_all, Cond.code yX9_one cX9_one 3 (some .boolean), Cond.methodLink RX9 103 yX9_opened]
def wsX9_all_r2 : List Cond := [Cond.instanceMethod yX9_opened, Cond.selects RX9 yX9_opened yX9_opened, Cond.methodLink RX9 79 yX9_sum, Cond.instanceMethod yX9_sum, Cond.selects RX9 yX9_sum yX9_sum, Cond.code yX9_sum cX9_sum 4 (some .boolean), Cond.methodLink RX9 106 yX9_product, Cond.instanceMethod yX9_product, Cond.selects RX9 yX9_product yX9_product, Cond.code yX9_atom cX9_atom 3 (some .boolean), Cond.methodLink RX9 94 yX9_numberHere, Cond.instanceMethod yX9_numberHere, Cond.selects RX9 yX9_numberHere yX9_numberHere, Cond.code yX9_numberHere cX9_numberHere 1 (some .int), Cond.fieldLink RX9 18 "PetrolBoard$Reader" "values" "[I", Cond.methodLink RX9 69 yX9_taken, Cond.instanceMethod yX9_taken, Cond.selects RX9 yX9_taken yX9_taken, Cond.code yX9_taken cX9_taken 2 (some .boolean), Cond.code yX9_product cX9_product 4 (some .boolean), Cond.methodLink RX9 109 yX9_atom, Cond.instanceMethod yX9_atom, Cond.selects RX9 yX9_atom yX9_atom, Cond.code yX9_opened cX9_opened 3 (some .boolean)]
def wsX9_all_r3 : List Cond := [Cond.methodLink RX9 91 yX9_either, Cond.instanceMethod yX9_either, Cond.selects RX9 yX9_either yX9_either]
def wsX9_all : List Cond := .code yX9_all cX9_all 3 (some .boolean) :: ((wsX9_all_r1 ++ (wsX9_all_r2 ++ wsX9_all_r3)) ++ wsX90)
def wsX9_either_r1 : List Cond := [Cond.fieldLink RX9 62 "PetrolBoard$Reader" "token" "I", Cond.methodLink RX9 97 yX9_all, Cond.instanceMethod yX9_all, Cond.selects RX9 yX9_all yX9_all, Cond.initialized RX9, Cond.methodLink RX9 59 yX9_step, Cond.instanceMethod yX9_step, Cond.selects RX9 yX9_step yX9_step, Cond.code yX9_step cX9_step 1 none, Cond.fieldLink RX9 56 "PetrolBoard$Reader" "at" "I", Cond.fieldLink RX9 76 "PetrolBoard$Reader" "scanned" "I", Cond.fieldLink RX9 15 "PetrolBoard$Reader" "tokens" "[I", Cond.methodLink RX9 82 yX9_emit, Cond.instanceMethod yX9_emit, Cond.selects RX9 yX9_emit yX9_emit, Cond.code yX9_emit cX9_emit 2 none, Cond.fieldLink RX9 50 "PetrolBoard$Reader" "used" "I", Cond.fieldLink RX9 24 "PetrolBoard$Reader" "code" "[I", Cond.code yX9_all cX9_all 3 (some .boolean), Cond.methodLink RX9 100 yX9_one, Cond.instanceMethod yX9_one, Cond.selects RX9 yX9_one yX9_one, Cond.code yX9_one cX9_one 3 (some .boolean), Cond.methodLink RX9 103 yX9_opened]
def wsX9_either_r2 : List Cond := [Cond.instanceMethod yX9_opened, Cond.selects RX9 yX9_opened yX9_opened, Cond.methodLink RX9 79 yX9_sum, Cond.instanceMethod yX9_sum, Cond.selects RX9 yX9_sum yX9_sum, Cond.code yX9_sum cX9_sum 4 (some .boolean), Cond.methodLink RX9 106 yX9_product, Cond.instanceMethod yX9_product, Cond.selects RX9 yX9_product yX9_product, Cond.code yX9_atom cX9_atom 3 (some .boolean), Cond.methodLink RX9 94 yX9_numberHere, Cond.instanceMethod yX9_numberHere, Cond.selects RX9 yX9_numberHere yX9_numberHere, Cond.code yX9_numberHere cX9_numberHere 1 (some .int), Cond.fieldLink RX9 18 "PetrolBoard$Reader" "values" "[I", Cond.methodLink RX9 69 yX9_taken, Cond.instanceMethod yX9_taken, Cond.selects RX9 yX9_taken yX9_taken, Cond.code yX9_taken cX9_taken 2 (some .boolean), Cond.code yX9_product cX9_product 4 (some .boolean), Cond.methodLink RX9 109 yX9_atom, Cond.instanceMethod yX9_atom, Cond.selects RX9 yX9_atom yX9_atom, Cond.code yX9_opened cX9_opened 3 (some .boolean)]
def wsX9_either_r3 : List Cond := [Cond.methodLink RX9 91 yX9_either, Cond.instanceMethod yX9_either, Cond.selects RX9 yX9_either yX9_either]
def wsX9_either : List Cond := .code yX9_either cX9_either 3 (some .boolean) :: ((wsX9_either_r1 ++ (wsX9_either_r2 ++ wsX9_either_r3)) ++ wsX90)
def wsX9_one_r1 : List Cond := [Cond.fieldLink RX9 62 "PetrolBoard$Reader" "token" "I", Cond.methodLink RX9 103 yX9_opened, Cond.instanceMethod yX9_opened, Cond.selects RX9 yX9_opened yX9_opened, Cond.initialized RX9, Cond.methodLink RX9 79 yX9_sum, Cond.instanceMethod yX9_sum, Cond.selects RX9 yX9_sum yX9_sum, Cond.code yX9_sum cX9_sum 4 (some .boolean), Cond.methodLink RX9 106 yX9_product, Cond.instanceMethod yX9_product, Cond.selects RX9 yX9_product yX9_product, Cond.methodLink RX9 59 yX9_step, Cond.instanceMethod yX9_step, Cond.selects RX9 yX9_step yX9_step, Cond.code yX9_step cX9_step 1 none, Cond.fieldLink RX9 56 "PetrolBoard$Reader" "at" "I", Cond.fieldLink RX9 76 "PetrolBoard$Reader" "scanned" "I", Cond.fieldLink RX9 15 "PetrolBoard$Reader" "tokens" "[I", Cond.methodLink RX9 82 yX9_emit, Cond.instanceMethod yX9_emit, Cond.selects RX9 yX9_emit yX9_emit, Cond.code yX9_emit cX9_emit 2 none, Cond.fieldLink RX9 50 "PetrolBoard$Reader" "used" "I"]
def wsX9_one_r2 : List Cond := [Cond.fieldLink RX9 24 "PetrolBoard$Reader" "code" "[I", Cond.code yX9_atom cX9_atom 3 (some .boolean), Cond.methodLink RX9 94 yX9_numberHere, Cond.instanceMethod yX9_numberHere, Cond.selects RX9 yX9_numberHere yX9_numberHere, Cond.code yX9_numberHere cX9_numberHere 1 (some .int), Cond.fieldLink RX9 18 "PetrolBoard$Reader" "values" "[I", Cond.methodLink RX9 69 yX9_taken, Cond.instanceMethod yX9_taken, Cond.selects RX9 yX9_taken yX9_taken, Cond.code yX9_taken cX9_taken 2 (some .boolean), Cond.code yX9_product cX9_product 4 (some .boolean), Cond.methodLink RX9 109 yX9_atom, Cond.instanceMethod yX9_atom, Cond.selects RX9 yX9_atom yX9_atom, Cond.code yX9_all cX9_all 3 (some .boolean), Cond.methodLink RX9 100 yX9_one, Cond.instanceMethod yX9_one, Cond.selects RX9 yX9_one yX9_one, Cond.code yX9_either cX9_either 3 (some .boolean), Cond.methodLink RX9 97 yX9_all, Cond.instanceMethod yX9_all, Cond.selects RX9 yX9_all yX9_all, Cond.code yX9_opened cX9_opened 3 (some .boolean)]
def wsX9_one_r3 : List Cond := [Cond.methodLink RX9 91 yX9_either, Cond.instanceMethod yX9_either, Cond.selects RX9 yX9_either yX9_either]
def wsX9_one : List Cond := .code yX9_one cX9_one 3 (some .boolean) :: ((wsX9_one_r1 ++ (wsX9_one_r2 ++ wsX9_one_r3)) ++ wsX90)
def wsX9_opened_r1 : List Cond := [Cond.fieldLink RX9 62 "PetrolBoard$Reader" "token" "I", Cond.methodLink RX9 59 yX9_step, Cond.instanceMethod yX9_step, Cond.selects RX9 yX9_step yX9_step, Cond.initialized RX9, Cond.code yX9_step cX9_step 1 none, Cond.fieldLink RX9 56 "PetrolBoard$Reader" "at" "I", Cond.fieldLink RX9 76 "PetrolBoard$Reader" "scanned" "I", Cond.fieldLink RX9 15 "PetrolBoard$Reader" "tokens" "[I", Cond.methodLink RX9 91 yX9_either, Cond.instanceMethod yX9_either, Cond.selects RX9 yX9_either yX9_either, Cond.methodLink RX9 69 yX9_taken, Cond.instanceMethod yX9_taken, Cond.selects RX9 yX9_taken yX9_taken, Cond.code yX9_taken cX9_taken 2 (some .boolean), Cond.methodLink RX9 100 yX9_one, Cond.instanceMethod yX9_one, Cond.selects RX9 yX9_one yX9_one, Cond.methodLink RX9 82 yX9_emit, Cond.instanceMethod yX9_emit, Cond.selects RX9 yX9_emit yX9_emit, Cond.code yX9_emit cX9_emit 2 none, Cond.fieldLink RX9 50 "PetrolBoard$Reader" "used" "I"]
def wsX9_opened_r2 : List Cond := [Cond.fieldLink RX9 24 "PetrolBoard$Reader" "code" "[I", Cond.code yX9_all cX9_all 3 (some .boolean), Cond.code yX9_either cX9_either 3 (some .boolean), Cond.methodLink RX9 97 yX9_all, Cond.instanceMethod yX9_all, Cond.selects RX9 yX9_all yX9_all, Cond.code yX9_one cX9_one 3 (some .boolean), Cond.methodLink RX9 103 yX9_opened, Cond.instanceMethod yX9_opened, Cond.selects RX9 yX9_opened yX9_opened, Cond.methodLink RX9 79 yX9_sum, Cond.instanceMethod yX9_sum, Cond.selects RX9 yX9_sum yX9_sum, Cond.code yX9_sum cX9_sum 4 (some .boolean), Cond.methodLink RX9 106 yX9_product, Cond.instanceMethod yX9_product, Cond.selects RX9 yX9_product yX9_product, Cond.code yX9_atom cX9_atom 3 (some .boolean), Cond.methodLink RX9 94 yX9_numberHere, Cond.instanceMethod yX9_numberHere, Cond.selects RX9 yX9_numberHere yX9_numberHere, Cond.code yX9_numberHere cX9_numberHere 1 (some .int), Cond.fieldLink RX9 18 "PetrolBoard$Reader" "values" "[I", Cond.code yX9_product cX9_product 4 (some .boolean)]
def wsX9_opened_r3 : List Cond := [Cond.methodLink RX9 109 yX9_atom, Cond.instanceMethod yX9_atom, Cond.selects RX9 yX9_atom yX9_atom]
def wsX9_opened : List Cond := .code yX9_opened cX9_opened 3 (some .boolean) :: ((wsX9_opened_r1 ++ (wsX9_opened_r2 ++ wsX9_opened_r3)) ++ wsX90)
def wsX9_condition_r1 : List Cond := [Cond.fieldLink RX9 33 "PetrolBoard$Reader" "second" "[I", Cond.fieldLink RX9 50 "PetrolBoard$Reader" "used" "I", Cond.methodLink RX9 59 yX9_step, Cond.instanceMethod yX9_step, Cond.selects RX9 yX9_step yX9_step, Cond.initialized RX9, Cond.code yX9_step cX9_step 1 none, Cond.fieldLink RX9 56 "PetrolBoard$Reader" "at" "I", Cond.fieldLink RX9 76 "PetrolBoard$Reader" "scanned" "I", Cond.fieldLink RX9 15 "PetrolBoard$Reader" "tokens" "[I", Cond.fieldLink RX9 62 "PetrolBoard$Reader" "token" "I", Cond.methodLink RX9 91 yX9_either, Cond.instanceMethod yX9_either, Cond.selects RX9 yX9_either yX9_either, Cond.code yX9_either cX9_either 3 (some .boolean), Cond.methodLink RX9 97 yX9_all, Cond.instanceMethod yX9_all, Cond.selects RX9 yX9_all yX9_all, Cond.methodLink RX9 82 yX9_emit, Cond.instanceMethod yX9_emit, Cond.selects RX9 yX9_emit yX9_emit, Cond.code yX9_emit cX9_emit 2 none, Cond.fieldLink RX9 24 "PetrolBoard$Reader" "code" "[I", Cond.code yX9_all cX9_all 3 (some .boolean)]
def wsX9_condition_r2 : List Cond := [Cond.methodLink RX9 100 yX9_one, Cond.instanceMethod yX9_one, Cond.selects RX9 yX9_one yX9_one, Cond.code yX9_one cX9_one 3 (some .boolean), Cond.methodLink RX9 103 yX9_opened, Cond.instanceMethod yX9_opened, Cond.selects RX9 yX9_opened yX9_opened, Cond.methodLink RX9 79 yX9_sum, Cond.instanceMethod yX9_sum, Cond.selects RX9 yX9_sum yX9_sum, Cond.code yX9_sum cX9_sum 4 (some .boolean), Cond.methodLink RX9 106 yX9_product, Cond.instanceMethod yX9_product, Cond.selects RX9 yX9_product yX9_product, Cond.code yX9_atom cX9_atom 3 (some .boolean), Cond.methodLink RX9 94 yX9_numberHere, Cond.instanceMethod yX9_numberHere, Cond.selects RX9 yX9_numberHere yX9_numberHere, Cond.code yX9_numberHere cX9_numberHere 1 (some .int), Cond.fieldLink RX9 18 "PetrolBoard$Reader" "values" "[I", Cond.methodLink RX9 69 yX9_taken, Cond.instanceMethod yX9_taken, Cond.selects RX9 yX9_taken yX9_taken, Cond.code yX9_taken cX9_taken 2 (some .boolean)]
def wsX9_condition_r3 : List Cond := [Cond.code yX9_product cX9_product 4 (some .boolean), Cond.methodLink RX9 109 yX9_atom, Cond.instanceMethod yX9_atom, Cond.selects RX9 yX9_atom yX9_atom, Cond.code yX9_opened cX9_opened 3 (some .boolean)]
def wsX9_condition : List Cond := .code yX9_condition cX9_condition 2 (some .boolean) :: ((wsX9_condition_r1 ++ (wsX9_condition_r2 ++ wsX9_condition_r3)) ++ wsX90)
def wsX9_amountOf : List Cond := .code yX9_amountOf cX9_amountOf 3 (some .boolean) :: ([.fieldLink RX9 27 "PetrolBoard$Reader" "head" "[I", .fieldLink RX9 62 "PetrolBoard$Reader" "token" "I", .fieldLink RX9 30 "PetrolBoard$Reader" "first" "[I", .methodLink RX9 59 yX9_step, .instanceMethod yX9_step, .selects RX9 yX9_step yX9_step, .initialized RX9, .code yX9_step cX9_step 1 none, .fieldLink RX9 56 "PetrolBoard$Reader" "at" "I", .fieldLink RX9 76 "PetrolBoard$Reader" "scanned" "I", .fieldLink RX9 15 "PetrolBoard$Reader" "tokens" "[I", .methodLink RX9 94 yX9_numberHere, .instanceMethod yX9_numberHere, .selects RX9 yX9_numberHere yX9_numberHere, .code yX9_numberHere cX9_numberHere 1 (some .int), .fieldLink RX9 18 "PetrolBoard$Reader" "values" "[I"] ++ wsX90)
def wsX9_statement_r1 : List Cond := [Cond.fieldLink RX9 27 "PetrolBoard$Reader" "head" "[I", Cond.fieldLink RX9 62 "PetrolBoard$Reader" "token" "I", Cond.fieldLink RX9 30 "PetrolBoard$Reader" "first" "[I", Cond.fieldLink RX9 50 "PetrolBoard$Reader" "used" "I", Cond.fieldLink RX9 33 "PetrolBoard$Reader" "second" "[I", Cond.methodLink RX9 59 yX9_step, Cond.instanceMethod yX9_step, Cond.selects RX9 yX9_step yX9_step, Cond.initialized RX9, Cond.code yX9_step cX9_step 1 none, Cond.fieldLink RX9 56 "PetrolBoard$Reader" "at" "I", Cond.fieldLink RX9 76 "PetrolBoard$Reader" "scanned" "I", Cond.fieldLink RX9 15 "PetrolBoard$Reader" "tokens" "[I", Cond.methodLink RX9 79 yX9_sum, Cond.instanceMethod yX9_sum, Cond.selects RX9 yX9_sum yX9_sum, Cond.code yX9_sum cX9_sum 4 (some .boolean), Cond.methodLink RX9 106 yX9_product, Cond.instanceMethod yX9_product, Cond.selects RX9 yX9_product yX9_product, Cond.methodLink RX9 82 yX9_emit, Cond.instanceMethod yX9_emit, Cond.selects RX9 yX9_emit yX9_emit, Cond.code yX9_emit cX9_emit 2 none]
def wsX9_statement_r2 : List Cond := [Cond.fieldLink RX9 24 "PetrolBoard$Reader" "code" "[I", Cond.code yX9_atom cX9_atom 3 (some .boolean), Cond.methodLink RX9 94 yX9_numberHere, Cond.instanceMethod yX9_numberHere, Cond.selects RX9 yX9_numberHere yX9_numberHere, Cond.code yX9_numberHere cX9_numberHere 1 (some .int), Cond.fieldLink RX9 18 "PetrolBoard$Reader" "values" "[I", Cond.methodLink RX9 69 yX9_taken, Cond.instanceMethod yX9_taken, Cond.selects RX9 yX9_taken yX9_taken, Cond.code yX9_taken cX9_taken 2 (some .boolean), Cond.code yX9_product cX9_product 4 (some .boolean), Cond.methodLink RX9 109 yX9_atom, Cond.instanceMethod yX9_atom, Cond.selects RX9 yX9_atom yX9_atom, Cond.methodLink RX9 85 yX9_condition, Cond.instanceMethod yX9_condition, Cond.selects RX9 yX9_condition yX9_condition, Cond.code yX9_condition cX9_condition 2 (some .boolean), Cond.methodLink RX9 91 yX9_either, Cond.instanceMethod yX9_either, Cond.selects RX9 yX9_either yX9_either, Cond.code yX9_either cX9_either 3 (some .boolean), Cond.methodLink RX9 97 yX9_all]
def wsX9_statement_r3 : List Cond := [Cond.instanceMethod yX9_all, Cond.selects RX9 yX9_all yX9_all, Cond.code yX9_all cX9_all 3 (some .boolean), Cond.methodLink RX9 100 yX9_one, Cond.instanceMethod yX9_one, Cond.selects RX9 yX9_one yX9_one, Cond.code yX9_one cX9_one 3 (some .boolean), Cond.methodLink RX9 103 yX9_opened, Cond.instanceMethod yX9_opened, Cond.selects RX9 yX9_opened yX9_opened, Cond.code yX9_opened cX9_opened 3 (some .boolean), Cond.methodLink RX9 88 yX9_amountOf, Cond.instanceMethod yX9_amountOf, Cond.selects RX9 yX9_amountOf yX9_amountOf, Cond.code yX9_amountOf cX9_amountOf 3 (some .boolean)]
def wsX9_statement : List Cond := .code yX9_statement cX9_statement 2 (some .boolean) :: ((wsX9_statement_r1 ++ (wsX9_statement_r2 ++ wsX9_statement_r3)) ++ wsX90)
def wsX9_place : List Cond := .code yX9_place cX9_place 1 (some .int) :: ([.fieldLink RX9 56 "PetrolBoard$Reader" "at" "I", .fieldLink RX9 76 "PetrolBoard$Reader" "scanned" "I", .fieldLink RX9 21 "PetrolBoard$Reader" "places" "[I"] ++ wsX90)
def wsX9_read_r1 : List Cond := [Cond.fieldLink RX9 36 "PetrolBoard$Reader" "taped" "I", Cond.methodLink RX9 40 Lib.Math.min.name, Cond.static Lib.Math.min.name, Cond.initialized "java/lang/Math", Cond.code Lib.Math.min.name Lib.Math.min.code 2 (some .int), Cond.fieldLink RX9 50 "PetrolBoard$Reader" "used" "I", Cond.fieldLink RX9 53 "PetrolBoard$Reader" "statements" "I", Cond.fieldLink RX9 56 "PetrolBoard$Reader" "at" "I", Cond.fieldLink RX9 62 "PetrolBoard$Reader" "token" "I", Cond.methodLink RX9 46 yX9_scan, Cond.instanceMethod yX9_scan, Cond.selects RX9 yX9_scan yX9_scan, Cond.initialized RX9, Cond.code yX9_scan cX9_scan 5 none, Cond.fieldLink RX9 9 "PetrolBoard$Reader" "text" "[I", Cond.fieldLink RX9 76 "PetrolBoard$Reader" "scanned" "I", Cond.methodLink RX9 128 Lib.Math.max.name, Cond.static Lib.Math.max.name, Cond.code Lib.Math.max.name Lib.Math.max.code 2 (some .int), Cond.methodLink RX9 112 yX9_endOf, Cond.instanceMethod yX9_endOf, Cond.selects RX9 yX9_endOf yX9_endOf, Cond.code yX9_endOf cX9_endOf 5 (some .int), Cond.methodLink RX9 131 yX9_isLetter]
def wsX9_read_r2 : List Cond := [Cond.static yX9_isLetter, Cond.code yX9_isLetter cX9_isLetter 1 (some .boolean), Cond.methodLink RX9 134 yX9_isDigit, Cond.static yX9_isDigit, Cond.code yX9_isDigit cX9_isDigit 1 (some .boolean), Cond.methodLink RX9 115 yX9_isBlank, Cond.static yX9_isBlank, Cond.code yX9_isBlank cX9_isBlank 1 (some .boolean), Cond.methodLink RX9 118 yX9_tokenOf, Cond.instanceMethod yX9_tokenOf, Cond.selects RX9 yX9_tokenOf yX9_tokenOf, Cond.code yX9_tokenOf cX9_tokenOf 4 (some .int), Cond.methodLink RX9 137 yX9_wordOf, Cond.instanceMethod yX9_wordOf, Cond.selects RX9 yX9_wordOf yX9_wordOf, Cond.code yX9_wordOf cX9_wordOf 4 (some .int), Cond.methodLink RX9 143 yX9_wordText, Cond.static yX9_wordText, Cond.code yX9_wordText cX9_wordText 1 (some (.object "java/lang/String")), Cond.methodLink RX9 147 yX9_isWord, Cond.instanceMethod yX9_isWord, Cond.selects RX9 yX9_isWord yX9_isWord, Cond.code yX9_isWord cX9_isWord 5 (some .boolean), Cond.methodLink RX9 151 yJ0_length_8abf5]
def wsX9_read_r3 : List Cond := [Cond.instanceMethod yJ0_length_8abf5, Cond.selects RJ0 yJ0_length_8abf5 yJ0_length_8abf5, Cond.initialized RJ0, Cond.code yJ0_length_8abf5 cJ0_length_8abf5 1 (some .int), Cond.fieldLink RJ0 9 "java/lang/String" "value" "[B", Cond.methodLink RJ0 335 yJ0_coder_7d493, Cond.instanceMethod yJ0_coder_7d493, Cond.selects RJ0 yJ0_coder_7d493 yJ0_coder_7d493, Cond.code yJ0_coder_7d493 cJ0_coder_7d493 1 (some .byte), Cond.fieldLink RJ0 38 "java/lang/String" "COMPACT_STRINGS" "Z", Cond.fieldLink RJ0 15 "java/lang/String" "coder" "B", Cond.methodLink RX9 156 yJ0_charAt_5068e, Cond.instanceMethod yJ0_charAt_5068e, Cond.selects RJ0 yJ0_charAt_5068e yJ0_charAt_5068e, Cond.code yJ0_charAt_5068e cJ0_charAt_5068e 2 (some .char), Cond.methodLink RJ0 492 yJ0_isLatin1_aae02, Cond.instanceMethod yJ0_isLatin1_aae02, Cond.selects RJ0 yJ0_isLatin1_aae02 yJ0_isLatin1_aae02, Cond.code yJ0_isLatin1_aae02 cJ0_isLatin1_aae02 1 (some .boolean), Cond.methodLink RJ0 495 yJ1_charAt_3b067, Cond.static yJ1_charAt_3b067, Cond.initialized RJ1, Cond.code yJ1_charAt_3b067 cJ1_charAt_3b067 2 (some .char), Cond.methodLink RJ1 9 yJ0_checkIndex_df160]
def wsX9_read_r4 : List Cond := [Cond.static yJ0_checkIndex_df160, Cond.code yJ0_checkIndex_df160 cJ0_checkIndex_df160 2 none, Cond.fieldLink RJ0 1053 "jdk/internal/util/Preconditions" "SIOOBE_FORMATTER" "Ljava/util/function/BiFunction;", Cond.methodLink RJ0 1059 yJ3_checkIndex_8e157, Cond.static yJ3_checkIndex_8e157, Cond.initialized RJ3, Cond.code yJ3_checkIndex_8e157 cJ3_checkIndex_8e157 3 (some .int), Cond.methodLink RJ0 498 yJ2_charAt_3b067, Cond.static yJ2_charAt_3b067, Cond.initialized RJ2, Cond.code yJ2_charAt_3b067 cJ2_charAt_3b067 2 (some .char), Cond.methodLink RJ2 67 yJ2_checkIndex_2214a, Cond.static yJ2_checkIndex_2214a, Cond.code yJ2_checkIndex_2214a cJ2_checkIndex_2214a 2 none, Cond.methodLink RJ2 48 yJ2_length_9d52b, Cond.static yJ2_length_9d52b, Cond.code yJ2_length_9d52b cJ2_length_9d52b 1 (some .int), Cond.methodLink RJ2 414 yJ0_checkIndex_df160, Cond.methodLink RJ2 71 yJ2_getChar_3b067, Cond.static yJ2_getChar_3b067, Cond.code yJ2_getChar_3b067 cJ2_getChar_3b067 2 (some .char), Cond.fieldLink RJ2 44 "java/lang/StringUTF16" "$assertionsDisabled" "Z", Cond.fieldLink RJ2 59 "java/lang/StringUTF16" "HI_BYTE_SHIFT" "I", Cond.fieldLink RJ2 63 "java/lang/StringUTF16" "LO_BYTE_SHIFT" "I"]
def wsX9_read_r5 : List Cond := [Cond.methodLink RX9 140 yX9_isSign, Cond.static yX9_isSign, Cond.code yX9_isSign cX9_isSign 1 (some .boolean), Cond.methodLink RX9 121 yX9_numberOf, Cond.instanceMethod yX9_numberOf, Cond.selects RX9 yX9_numberOf yX9_numberOf, Cond.code yX9_numberOf cX9_numberOf 5 (some .int), Cond.methodLink RX9 124 yX9_addToken, Cond.instanceMethod yX9_addToken, Cond.selects RX9 yX9_addToken yX9_addToken, Cond.code yX9_addToken cX9_addToken 4 none, Cond.fieldLink RX9 15 "PetrolBoard$Reader" "tokens" "[I", Cond.fieldLink RX9 21 "PetrolBoard$Reader" "places" "[I", Cond.fieldLink RX9 18 "PetrolBoard$Reader" "values" "[I", Cond.methodLink RX9 59 yX9_step, Cond.instanceMethod yX9_step, Cond.selects RX9 yX9_step yX9_step, Cond.code yX9_step cX9_step 1 none, Cond.methodLink RX9 65 yX9_statement, Cond.instanceMethod yX9_statement, Cond.selects RX9 yX9_statement yX9_statement, Cond.code yX9_statement cX9_statement 2 (some .boolean), Cond.fieldLink RX9 27 "PetrolBoard$Reader" "head" "[I", Cond.fieldLink RX9 30 "PetrolBoard$Reader" "first" "[I"]
def wsX9_read_r6 : List Cond := [Cond.fieldLink RX9 33 "PetrolBoard$Reader" "second" "[I", Cond.methodLink RX9 79 yX9_sum, Cond.instanceMethod yX9_sum, Cond.selects RX9 yX9_sum yX9_sum, Cond.code yX9_sum cX9_sum 4 (some .boolean), Cond.methodLink RX9 106 yX9_product, Cond.instanceMethod yX9_product, Cond.selects RX9 yX9_product yX9_product, Cond.methodLink RX9 82 yX9_emit, Cond.instanceMethod yX9_emit, Cond.selects RX9 yX9_emit yX9_emit, Cond.code yX9_emit cX9_emit 2 none, Cond.fieldLink RX9 24 "PetrolBoard$Reader" "code" "[I", Cond.code yX9_atom cX9_atom 3 (some .boolean), Cond.methodLink RX9 94 yX9_numberHere, Cond.instanceMethod yX9_numberHere, Cond.selects RX9 yX9_numberHere yX9_numberHere, Cond.code yX9_numberHere cX9_numberHere 1 (some .int), Cond.methodLink RX9 69 yX9_taken, Cond.instanceMethod yX9_taken, Cond.selects RX9 yX9_taken yX9_taken, Cond.code yX9_taken cX9_taken 2 (some .boolean), Cond.code yX9_product cX9_product 4 (some .boolean), Cond.methodLink RX9 109 yX9_atom]
def wsX9_read_r7 : List Cond := [Cond.instanceMethod yX9_atom, Cond.selects RX9 yX9_atom yX9_atom, Cond.methodLink RX9 85 yX9_condition, Cond.instanceMethod yX9_condition, Cond.selects RX9 yX9_condition yX9_condition, Cond.code yX9_condition cX9_condition 2 (some .boolean), Cond.methodLink RX9 91 yX9_either, Cond.instanceMethod yX9_either, Cond.selects RX9 yX9_either yX9_either, Cond.code yX9_either cX9_either 3 (some .boolean), Cond.methodLink RX9 97 yX9_all, Cond.instanceMethod yX9_all, Cond.selects RX9 yX9_all yX9_all, Cond.code yX9_all cX9_all 3 (some .boolean), Cond.methodLink RX9 100 yX9_one, Cond.instanceMethod yX9_one, Cond.selects RX9 yX9_one yX9_one, Cond.code yX9_one cX9_one 3 (some .boolean), Cond.methodLink RX9 103 yX9_opened, Cond.instanceMethod yX9_opened, Cond.selects RX9 yX9_opened yX9_opened, Cond.code yX9_opened cX9_opened 3 (some .boolean), Cond.methodLink RX9 88 yX9_amountOf, Cond.instanceMethod yX9_amountOf]
def wsX9_read_r8 : List Cond := [Cond.selects RX9 yX9_amountOf yX9_amountOf, Cond.code yX9_amountOf cX9_amountOf 3 (some .boolean), Cond.methodLink RX9 72 yX9_place, Cond.instanceMethod yX9_place, Cond.selects RX9 yX9_place yX9_place, Cond.code yX9_place cX9_place 1 (some .int)]
def wsX9_read : List Cond := .code yX9_read cX9_read 3 (some .int) :: ((wsX9_read_r1 ++ (wsX9_read_r2 ++ (wsX9_read_r3 ++ (wsX9_read_r4 ++ (wsX9_read_r5 ++ (wsX9_read_r6 ++ (wsX9_read_r7 ++ wsX9_read_r8))))))) ++ wsX90)
def wsX10_init : List Cond := .code yX10_init cX10_init 1 none :: ([.methodLink RX10 3 objectInit, .instanceMethod objectInit, .code objectInit ⟨#[0xb1]⟩ 1 none, .arrayClass .int, .fieldLink RX10 9 "PetrolBoard$Station" "told" "[I", .fieldLink RX10 15 "PetrolBoard$Station" "dipDay" "[I", .fieldLink RX10 18 "PetrolBoard$Station" "deliveredThen" "[I", .fieldLink RX10 21 "PetrolBoard$Station" "pouredThen" "[I", .fieldLink RX10 24 "PetrolBoard$Station" "low" "[I", .fieldLink RX10 27 "PetrolBoard$Station" "high" "[I", .fieldLink RX10 30 "PetrolBoard$Station" "in" "[I"] ++ wsX100)
def wsX10_addDelivery : List Cond := .code yX10_addDelivery cX10_addDelivery 2 (some .int) :: ([.fieldLink RX10 33 "PetrolBoard$Station" "deliveries" "I", .fieldLink RX10 37 "PetrolBoard$Station" "delivered" "I"] ++ wsX100)
def wsX10_addDip : List Cond := .code yX10_addDip cX10_addDip 4 (some .int) :: ([.fieldLink RX10 40 "PetrolBoard$Station" "dips" "I", .fieldLink RX10 9 "PetrolBoard$Station" "told" "[I", .fieldLink RX10 15 "PetrolBoard$Station" "dipDay" "[I", .fieldLink RX10 18 "PetrolBoard$Station" "deliveredThen" "[I", .fieldLink RX10 37 "PetrolBoard$Station" "delivered" "I", .fieldLink RX10 21 "PetrolBoard$Station" "pouredThen" "[I"] ++ wsX100)
def wsX10_hasSpan : List Cond := .code yX10_hasSpan cX10_hasSpan 3 (some .boolean) :: ([.fieldLink RX10 40 "PetrolBoard$Station" "dips" "I"] ++ wsX100)
def wsX10_lowestFirst : List Cond := .code yX10_lowestFirst cX10_lowestFirst 6 (some .long) :: ([.fieldLink RX10 24 "PetrolBoard$Station" "low" "[I", .fieldLink RX10 30 "PetrolBoard$Station" "in" "[I", .methodLink RX10 47 Lib.MathLoose.max_long.x, .static Lib.MathLoose.max_long.x, .initialized "java/lang/Math", .code Lib.MathLoose.max_long.x Lib.MathLoose.max_long.code 4 (some .long), .fieldLink RX10 27 "PetrolBoard$Station" "high" "[I", .constantLong RX10 53 (-1), .methodLink RX10 43 yX10_hasSpan, .instanceMethod yX10_hasSpan, .selects RX10 yX10_hasSpan yX10_hasSpan, .initialized RX10, .code yX10_hasSpan cX10_hasSpan 3 (some .boolean), .fieldLink RX10 40 "PetrolBoard$Station" "dips" "I"] ++ wsX100)
def wsX10_inTogether : List Cond := .code yX10_inTogether cX10_inTogether 6 (some .long) :: ([.methodLink RX10 55 Lib.Math.max.name, .static Lib.Math.max.name, .initialized "java/lang/Math", .code Lib.Math.max.name Lib.Math.max.code 2 (some .int), .fieldLink RX10 30 "PetrolBoard$Station" "in" "[I"] ++ wsX100)
def wsX10_mostBlack_r1 : List Cond := [Cond.constantLong RX10 53 (-1), Cond.constantLong RX10 62 (-3), Cond.fieldLink RX10 27 "PetrolBoard$Station" "high" "[I", Cond.fieldLink RX10 24 "PetrolBoard$Station" "low" "[I", Cond.methodLink RX10 43 yX10_hasSpan, Cond.instanceMethod yX10_hasSpan, Cond.selects RX10 yX10_hasSpan yX10_hasSpan, Cond.initialized RX10, Cond.code yX10_hasSpan cX10_hasSpan 3 (some .boolean), Cond.fieldLink RX10 40 "PetrolBoard$Station" "dips" "I", Cond.methodLink RX10 58 yX10_lowestFirst, Cond.instanceMethod yX10_lowestFirst, Cond.selects RX10 yX10_lowestFirst yX10_lowestFirst, Cond.code yX10_lowestFirst cX10_lowestFirst 6 (some .long), Cond.fieldLink RX10 30 "PetrolBoard$Station" "in" "[I", Cond.methodLink RX10 47 Lib.MathLoose.max_long.x, Cond.static Lib.MathLoose.max_long.x, Cond.initialized "java/lang/Math", Cond.code Lib.MathLoose.max_long.x Lib.MathLoose.max_long.code 4 (some .long), Cond.methodLink RX10 64 yX10_inTogether, Cond.instanceMethod yX10_inTogether, Cond.selects RX10 yX10_inTogether yX10_inTogether, Cond.code yX10_inTogether cX10_inTogether 6 (some .long), Cond.methodLink RX10 55 Lib.Math.max.name]
def wsX10_mostBlack_r2 : List Cond := [Cond.static Lib.Math.max.name, Cond.code Lib.Math.max.name Lib.Math.max.code 2 (some .int)]
def wsX10_mostBlack : List Cond := .code yX10_mostBlack cX10_mostBlack 3 (some .long) :: ((wsX10_mostBlack_r1 ++ wsX10_mostBlack_r2) ++ wsX100)
def wsX10_leastBlack_r1 : List Cond := [Cond.constantLong RX10 53 (-1), Cond.constantLong RX10 62 (-3), Cond.fieldLink RX10 27 "PetrolBoard$Station" "high" "[I", Cond.fieldLink RX10 30 "PetrolBoard$Station" "in" "[I", Cond.methodLink RX10 67 Lib.MathLoose.min_long.x, Cond.static Lib.MathLoose.min_long.x, Cond.initialized "java/lang/Math", Cond.code Lib.MathLoose.min_long.x Lib.MathLoose.min_long.code 4 (some .long), Cond.methodLink RX10 43 yX10_hasSpan, Cond.instanceMethod yX10_hasSpan, Cond.selects RX10 yX10_hasSpan yX10_hasSpan, Cond.initialized RX10, Cond.code yX10_hasSpan cX10_hasSpan 3 (some .boolean), Cond.fieldLink RX10 40 "PetrolBoard$Station" "dips" "I", Cond.methodLink RX10 58 yX10_lowestFirst, Cond.instanceMethod yX10_lowestFirst, Cond.selects RX10 yX10_lowestFirst yX10_lowestFirst, Cond.code yX10_lowestFirst cX10_lowestFirst 6 (some .long), Cond.fieldLink RX10 24 "PetrolBoard$Station" "low" "[I", Cond.methodLink RX10 47 Lib.MathLoose.max_long.x, Cond.static Lib.MathLoose.max_long.x, Cond.code Lib.MathLoose.max_long.x Lib.MathLoose.max_long.code 4 (some .long), Cond.methodLink RX10 64 yX10_inTogether, Cond.instanceMethod yX10_inTogether]
def wsX10_leastBlack_r2 : List Cond := [Cond.selects RX10 yX10_inTogether yX10_inTogether, Cond.code yX10_inTogether cX10_inTogether 6 (some .long), Cond.methodLink RX10 55 Lib.Math.max.name, Cond.static Lib.Math.max.name, Cond.code Lib.Math.max.name Lib.Math.max.code 2 (some .int)]
def wsX10_leastBlack : List Cond := .code yX10_leastBlack cX10_leastBlack 8 (some .long) :: ((wsX10_leastBlack_r1 ++ wsX10_leastBlack_r2) ++ wsX100)
def wsX10_blackBy : List Cond := .code yX10_blackBy cX10_blackBy 6 (some .long) :: ([.constantLong RX10 53 (-1), .fieldLink RX10 24 "PetrolBoard$Station" "low" "[I", .fieldLink RX10 27 "PetrolBoard$Station" "high" "[I", .fieldLink RX10 30 "PetrolBoard$Station" "in" "[I", .methodLink RX10 43 yX10_hasSpan, .instanceMethod yX10_hasSpan, .selects RX10 yX10_hasSpan yX10_hasSpan, .initialized RX10, .code yX10_hasSpan cX10_hasSpan 3 (some .boolean), .fieldLink RX10 40 "PetrolBoard$Station" "dips" "I", .methodLink RX10 64 yX10_inTogether, .instanceMethod yX10_inTogether, .selects RX10 yX10_inTogether yX10_inTogether, .code yX10_inTogether cX10_inTogether 6 (some .long), .methodLink RX10 55 Lib.Math.max.name, .static Lib.Math.max.name, .initialized "java/lang/Math", .code Lib.Math.max.name Lib.Math.max.code 2 (some .int)] ++ wsX100)
def wsX11_init_r1 : List Cond := [Cond.methodLink RX11 1 objectInit, Cond.instanceMethod objectInit, Cond.code objectInit ⟨#[0xb1]⟩ 1 none, Cond.fieldLink RX11 9 "PetrolBoard" "faultPlace" "I", Cond.classLink RX11 13 RX2, Cond.instantiable RX2 12, Cond.initialized RX2, Cond.fieldLink RX11 16 "PetrolBoard" "holders" "LPetrolBoard$Holders;", Cond.classLink RX11 20 RX9, Cond.instantiable RX9 14, Cond.initialized RX9, Cond.fieldLink RX11 23 "PetrolBoard" "reader" "LPetrolBoard$Reader;", Cond.classLink RX11 27 RX6, Cond.instantiable RX6 3, Cond.initialized RX6, Cond.fieldLink RX11 30 "PetrolBoard" "orderBook" "LPetrolBoard$OrderBook;", Cond.classLink RX11 34 RX0, Cond.instantiable RX0 5, Cond.initialized RX0, Cond.fieldLink RX11 37 "PetrolBoard" "coupons" "LPetrolBoard$Coupons;", Cond.classLink RX11 41 RX8, Cond.instantiable RX8 9, Cond.initialized RX8, Cond.fieldLink RX11 44 "PetrolBoard" "pours" "LPetrolBoard$Pours;"]
def wsX11_init_r2 : List Cond := [Cond.classLink RX11 48 RX10, Cond.fieldLink RX11 50 "PetrolBoard" "stations" "[LPetrolBoard$Station;", Cond.arrayClass .int, Cond.fieldLink RX11 54 "PetrolBoard" "row" "[I", Cond.classLink RX11 58 RX4, Cond.instantiable RX4 13, Cond.initialized RX4, Cond.fieldLink RX11 61 "PetrolBoard" "loads" "LPetrolBoard$Loads;", Cond.classLink RX11 65 RX3, Cond.instantiable RX3 17, Cond.initialized RX3, Cond.fieldLink RX11 68 "PetrolBoard" "journeys" "LPetrolBoard$Journeys;", Cond.classLink RX11 72 RX1, Cond.instantiable RX1 3, Cond.initialized RX1, Cond.fieldLink RX11 75 "PetrolBoard" "deal" "LPetrolBoard$Deal;", Cond.instanceMethod yX2_init, Cond.code yX2_init cX2_init 1 none, Cond.methodLink RX2 3 objectInit, Cond.fieldLink RX2 9 "PetrolBoard$Holders" "size" "[I", Cond.fieldLink RX2 15 "PetrolBoard$Holders" "town" "[I", Cond.fieldLink RX2 18 "PetrolBoard$Holders" "seats" "[I", Cond.fieldLink RX2 21 "PetrolBoard$Holders" "bid" "[I", Cond.fieldLink RX2 24 "PetrolBoard$Holders" "need" "[I"]
def wsX11_init_r3 : List Cond := [Cond.fieldLink RX2 27 "PetrolBoard$Holders" "noteOf" "[I", Cond.fieldLink RX2 30 "PetrolBoard$Holders" "kind" "[I", Cond.fieldLink RX2 33 "PetrolBoard$Holders" "from" "[I", Cond.fieldLink RX2 36 "PetrolBoard$Holders" "toldOn" "[I", Cond.fieldLink RX2 39 "PetrolBoard$Holders" "undoneOn" "[I", Cond.instanceMethod yX9_init, Cond.code yX9_init cX9_init 1 none, Cond.methodLink RX9 3 objectInit, Cond.fieldLink RX9 9 "PetrolBoard$Reader" "text" "[I", Cond.fieldLink RX9 15 "PetrolBoard$Reader" "tokens" "[I", Cond.fieldLink RX9 18 "PetrolBoard$Reader" "values" "[I", Cond.fieldLink RX9 21 "PetrolBoard$Reader" "places" "[I", Cond.fieldLink RX9 24 "PetrolBoard$Reader" "code" "[I", Cond.fieldLink RX9 27 "PetrolBoard$Reader" "head" "[I", Cond.fieldLink RX9 30 "PetrolBoard$Reader" "first" "[I", Cond.fieldLink RX9 33 "PetrolBoard$Reader" "second" "[I", Cond.instanceMethod yX6_init, Cond.code yX6_init cX6_init 1 none, Cond.methodLink RX6 3 objectInit, Cond.classLink RX6 9 RX7, Cond.fieldLink RX6 11 "PetrolBoard$OrderBook" "told" "[LPetrolBoard$Orders;", Cond.classLink RX6 17 RX5, Cond.instantiable RX5 2, Cond.initialized RX5]
def wsX11_init_r4 : List Cond := [Cond.fieldLink RX6 20 "PetrolBoard$OrderBook" "machine" "LPetrolBoard$Machine;", Cond.instanceMethod yX5_init, Cond.code yX5_init cX5_init 1 none, Cond.methodLink RX5 3 objectInit, Cond.fieldLink RX5 9 "PetrolBoard$Machine" "names" "[I", Cond.fieldLink RX5 15 "PetrolBoard$Machine" "stack" "[I", Cond.methodLink RX11 36 yX0_init, Cond.instanceMethod yX0_init, Cond.code yX0_init cX0_init 1 none, Cond.methodLink RX0 3 objectInit, Cond.fieldLink RX0 9 "PetrolBoard$Coupons" "issued" "[I", Cond.fieldLink RX0 15 "PetrolBoard$Coupons" "lent" "[I", Cond.fieldLink RX0 18 "PetrolBoard$Coupons" "lentTo" "[I", Cond.methodLink RX0 21 yJ7_fill_53178, Cond.static yJ7_fill_53178, Cond.initialized RJ7, Cond.code yJ7_fill_53178 cJ7_fill_53178 4 none, Cond.instanceMethod yX8_init, Cond.code yX8_init cX8_init 1 none, Cond.methodLink RX8 3 objectInit, Cond.fieldLink RX8 9 "PetrolBoard$Pours" "station" "[I", Cond.fieldLink RX8 15 "PetrolBoard$Pours" "holder" "[I", Cond.fieldLink RX8 18 "PetrolBoard$Pours" "coupon" "[I", Cond.fieldLink RX8 21 "PetrolBoard$Pours" "day" "[I"]
def wsX11_init_r5 : List Cond := [Cond.fieldLink RX8 24 "PetrolBoard$Pours" "tenths" "[I", Cond.fieldLink RX8 27 "PetrolBoard$Pours" "verdict" "[I", Cond.fieldLink RX8 30 "PetrolBoard$Pours" "dyed" "[I", Cond.fieldLink RX8 33 "PetrolBoard$Pours" "ownerThen" "[I", Cond.instanceMethod yX4_init, Cond.code yX4_init cX4_init 1 none, Cond.methodLink RX4 3 objectInit, Cond.fieldLink RX4 9 "PetrolBoard$Loads" "inPort" "[I", Cond.fieldLink RX4 15 "PetrolBoard$Loads" "wanted" "[I", Cond.classLink RX4 18 "[[I", Cond.fieldLink RX4 20 "PetrolBoard$Loads" "miles" "[[I", Cond.fieldLink RX4 23 "PetrolBoard$Loads" "sent" "[[I", Cond.fieldLink RX4 26 "PetrolBoard$Loads" "left" "[I", Cond.fieldLink RX4 29 "PetrolBoard$Loads" "lacking" "[I", Cond.fieldLink RX4 32 "PetrolBoard$Loads" "toPort" "[I", Cond.fieldLink RX4 35 "PetrolBoard$Loads" "toStation" "[I", Cond.fieldLink RX4 38 "PetrolBoard$Loads" "byPort" "[I", Cond.fieldLink RX4 41 "PetrolBoard$Loads" "byStation" "[I", Cond.instanceMethod yX3_init, Cond.code yX3_init cX3_init 1 none, Cond.methodLink RX3 3 objectInit, Cond.fieldLink RX3 9 "PetrolBoard$Journeys" "holder" "[I", Cond.fieldLink RX3 15 "PetrolBoard$Journeys" "miles" "[I", Cond.fieldLink RX3 18 "PetrolBoard$Journeys" "people" "[I"]
def wsX11_init_r6 : List Cond := [Cond.fieldLink RX3 21 "PetrolBoard$Journeys" "reason" "[I", Cond.fieldLink RX3 24 "PetrolBoard$Journeys" "day" "[I", Cond.fieldLink RX3 27 "PetrolBoard$Journeys" "way" "[I", Cond.fieldLink RX3 30 "PetrolBoard$Journeys" "asked" "[I", Cond.fieldLink RX3 33 "PetrolBoard$Journeys" "granted" "[I", Cond.fieldLink RX3 36 "PetrolBoard$Journeys" "grantedFirst" "[I", Cond.fieldLink RX3 39 "PetrolBoard$Journeys" "pooledSeats" "[I", Cond.fieldLink RX3 42 "PetrolBoard$Journeys" "pooledCost" "[I", Cond.instanceMethod yX1_init, Cond.code yX1_init cX1_init 1 none, Cond.methodLink RX1 3 objectInit, Cond.fieldLink RX1 9 "PetrolBoard$Deal" "units" "[I", Cond.fieldLink RX1 15 "PetrolBoard$Deal" "served" "[I", Cond.methodLink RX11 79 yJ7_fill_53178]
def wsX11_init : List Cond := .code yX11_init cX11_init 1 none :: ((wsX11_init_r1 ++ (wsX11_init_r2 ++ (wsX11_init_r3 ++ (wsX11_init_r4 ++ (wsX11_init_r5 ++ wsX11_init_r6))))) ++ wsX110 ++ wsX20 ++ wsX90 ++ wsX60 ++ wsX00 ++ wsX80 ++ wsX40 ++ wsX30 ++ wsX10 ++ wsX50)
def wsX11_day : List Cond := .code yX11_day cX11_day 2 (some .boolean) :: ([.fieldLink RX11 85 "PetrolBoard" "today" "I"] ++ wsX110)
def wsX11_holder : List Cond := .code yX11_holder cX11_holder 6 (some .int) :: ([.fieldLink RX11 16 "PetrolBoard" "holders" "LPetrolBoard$Holders;", .methodLink RX11 88 yX11_within, .static yX11_within, .initialized RX11, .code yX11_within cX11_within 3 (some .boolean), .methodLink RX11 92 yX2_add, .instanceMethod yX2_add, .selects RX2 yX2_add yX2_add, .initialized RX2, .code yX2_add cX2_add 6 (some .int), .fieldLink RX2 42 "PetrolBoard$Holders" "number" "I", .fieldLink RX2 9 "PetrolBoard$Holders" "size" "[I", .fieldLink RX2 15 "PetrolBoard$Holders" "town" "[I", .fieldLink RX2 18 "PetrolBoard$Holders" "seats" "[I", .fieldLink RX2 21 "PetrolBoard$Holders" "bid" "[I", .fieldLink RX2 24 "PetrolBoard$Holders" "need" "[I"] ++ wsX110 ++ wsX20)
def wsX11_isDay : List Cond := .code yX11_isDay cX11_isDay 1 (some .boolean) :: ([.methodLink RX11 88 yX11_within, .static yX11_within, .initialized RX11, .code yX11_within cX11_within 3 (some .boolean)])
def wsX11_note_r1 : List Cond := [Cond.fieldLink RX11 16 "PetrolBoard" "holders" "LPetrolBoard$Holders;", Cond.fieldLink RX11 85 "PetrolBoard" "today" "I", Cond.methodLink RX11 96 yX2_has, Cond.instanceMethod yX2_has, Cond.selects RX2 yX2_has yX2_has, Cond.initialized RX2, Cond.code yX2_has cX2_has 2 (some .boolean), Cond.fieldLink RX2 42 "PetrolBoard$Holders" "number" "I", Cond.methodLink RX11 88 yX11_within, Cond.static yX11_within, Cond.initialized RX11, Cond.code yX11_within cX11_within 3 (some .boolean), Cond.methodLink RX11 100 yX11_isDay, Cond.static yX11_isDay, Cond.code yX11_isDay cX11_isDay 1 (some .boolean), Cond.methodLink RX11 103 yX2_addNote, Cond.instanceMethod yX2_addNote, Cond.selects RX2 yX2_addNote yX2_addNote, Cond.code yX2_addNote cX2_addNote 5 (some .int), Cond.fieldLink RX2 46 "PetrolBoard$Holders" "notes" "I", Cond.fieldLink RX2 27 "PetrolBoard$Holders" "noteOf" "[I", Cond.fieldLink RX2 30 "PetrolBoard$Holders" "kind" "[I", Cond.fieldLink RX2 33 "PetrolBoard$Holders" "from" "[I", Cond.fieldLink RX2 36 "PetrolBoard$Holders" "toldOn" "[I"]
def wsX11_note_r2 : List Cond := [Cond.fieldLink RX2 39 "PetrolBoard$Holders" "undoneOn" "[I"]
def wsX11_note : List Cond := .code yX11_note cX11_note 4 (some .int) :: ((wsX11_note_r1 ++ wsX11_note_r2) ++ wsX110 ++ wsX20)
def wsX11_undo : List Cond := .code yX11_undo cX11_undo 2 (some .boolean) :: ([.fieldLink RX11 16 "PetrolBoard" "holders" "LPetrolBoard$Holders;", .fieldLink RX11 85 "PetrolBoard" "today" "I", .methodLink RX11 107 yX2_cancelNote, .instanceMethod yX2_cancelNote, .selects RX2 yX2_cancelNote yX2_cancelNote, .initialized RX2, .code yX2_cancelNote cX2_cancelNote 3 (some .boolean), .fieldLink RX2 46 "PetrolBoard$Holders" "notes" "I", .fieldLink RX2 39 "PetrolBoard$Holders" "undoneOn" "[I"] ++ wsX110 ++ wsX20)
def wsX11_classOf : List Cond := .code yX11_classOf cX11_classOf 4 (some .int) :: ([.fieldLink RX11 16 "PetrolBoard" "holders" "LPetrolBoard$Holders;", .methodLink RX11 96 yX2_has, .instanceMethod yX2_has, .selects RX2 yX2_has yX2_has, .initialized RX2, .code yX2_has cX2_has 2 (some .boolean), .fieldLink RX2 42 "PetrolBoard$Holders" "number" "I", .methodLink RX11 100 yX11_isDay, .static yX11_isDay, .initialized RX11, .code yX11_isDay cX11_isDay 1 (some .boolean), .methodLink RX11 88 yX11_within, .static yX11_within, .code yX11_within cX11_within 3 (some .boolean), .methodLink RX11 111 yX2_kindOn, .instanceMethod yX2_kindOn, .selects RX2 yX2_kindOn yX2_kindOn, .code yX2_kindOn cX2_kindOn 8 (some .int), .fieldLink RX2 46 "PetrolBoard$Holders" "notes" "I", .fieldLink RX2 27 "PetrolBoard$Holders" "noteOf" "[I", .fieldLink RX2 33 "PetrolBoard$Holders" "from" "[I", .fieldLink RX2 36 "PetrolBoard$Holders" "toldOn" "[I", .fieldLink RX2 39 "PetrolBoard$Holders" "undoneOn" "[I", .fieldLink RX2 30 "PetrolBoard$Holders" "kind" "[I"] ++ wsX110 ++ wsX20)
def wsX11_feed : List Cond := .code yX11_feed cX11_feed 6 (some .int) :: ([.fieldLink RX11 23 "PetrolBoard" "reader" "LPetrolBoard$Reader;", .fieldLink RX11 115 "PetrolBoard$Reader" "taped" "I", .methodLink RX11 118 yX9_put, .instanceMethod yX9_put, .selects RX9 yX9_put yX9_put, .initialized RX9, .code yX9_put cX9_put 3 none, .fieldLink RX9 36 "PetrolBoard$Reader" "taped" "I", .fieldLink RX9 9 "PetrolBoard$Reader" "text" "[I"] ++ wsX110 ++ wsX90)
def wsX11_isMonth : List Cond := .code yX11_isMonth cX11_isMonth 1 (some .boolean) :: ([.methodLink RX11 88 yX11_within, .static yX11_within, .initialized RX11, .code yX11_within cX11_within 3 (some .boolean)])
def wsX11_orders_r1 : List Cond := [Cond.fieldLink RX11 23 "PetrolBoard" "reader" "LPetrolBoard$Reader;", Cond.fieldLink RX11 115 "PetrolBoard$Reader" "taped" "I", Cond.fieldLink RX11 30 "PetrolBoard" "orderBook" "LPetrolBoard$OrderBook;", Cond.fieldLink RX11 125 "PetrolBoard$OrderBook" "number" "I", Cond.fieldLink RX11 9 "PetrolBoard" "faultPlace" "I", Cond.classLink RX11 132 RX7, Cond.instantiable RX7 6, Cond.initialized RX7, Cond.fieldLink RX11 85 "PetrolBoard" "today" "I", Cond.methodLink RX11 122 yX11_isMonth, Cond.static yX11_isMonth, Cond.initialized RX11, Cond.code yX11_isMonth cX11_isMonth 1 (some .boolean), Cond.methodLink RX11 88 yX11_within, Cond.static yX11_within, Cond.code yX11_within cX11_within 3 (some .boolean), Cond.methodLink RX11 128 yX9_read, Cond.instanceMethod yX9_read, Cond.selects RX9 yX9_read yX9_read, Cond.initialized RX9, Cond.code yX9_read cX9_read 3 (some .int), Cond.fieldLink RX9 36 "PetrolBoard$Reader" "taped" "I", Cond.methodLink RX9 40 Lib.Math.min.name, Cond.static Lib.Math.min.name]
def wsX11_orders_r2 : List Cond := [Cond.initialized "java/lang/Math", Cond.code Lib.Math.min.name Lib.Math.min.code 2 (some .int), Cond.fieldLink RX9 50 "PetrolBoard$Reader" "used" "I", Cond.fieldLink RX9 53 "PetrolBoard$Reader" "statements" "I", Cond.fieldLink RX9 56 "PetrolBoard$Reader" "at" "I", Cond.fieldLink RX9 62 "PetrolBoard$Reader" "token" "I", Cond.methodLink RX9 46 yX9_scan, Cond.instanceMethod yX9_scan, Cond.selects RX9 yX9_scan yX9_scan, Cond.code yX9_scan cX9_scan 5 none, Cond.fieldLink RX9 9 "PetrolBoard$Reader" "text" "[I", Cond.fieldLink RX9 76 "PetrolBoard$Reader" "scanned" "I", Cond.methodLink RX9 128 Lib.Math.max.name, Cond.static Lib.Math.max.name, Cond.code Lib.Math.max.name Lib.Math.max.code 2 (some .int), Cond.methodLink RX9 112 yX9_endOf, Cond.instanceMethod yX9_endOf, Cond.selects RX9 yX9_endOf yX9_endOf, Cond.code yX9_endOf cX9_endOf 5 (some .int), Cond.methodLink RX9 131 yX9_isLetter, Cond.static yX9_isLetter, Cond.code yX9_isLetter cX9_isLetter 1 (some .boolean), Cond.methodLink RX9 134 yX9_isDigit, Cond.static yX9_isDigit]
def wsX11_orders_r3 : List Cond := [Cond.code yX9_isDigit cX9_isDigit 1 (some .boolean), Cond.methodLink RX9 115 yX9_isBlank, Cond.static yX9_isBlank, Cond.code yX9_isBlank cX9_isBlank 1 (some .boolean), Cond.methodLink RX9 118 yX9_tokenOf, Cond.instanceMethod yX9_tokenOf, Cond.selects RX9 yX9_tokenOf yX9_tokenOf, Cond.code yX9_tokenOf cX9_tokenOf 4 (some .int), Cond.methodLink RX9 137 yX9_wordOf, Cond.instanceMethod yX9_wordOf, Cond.selects RX9 yX9_wordOf yX9_wordOf, Cond.code yX9_wordOf cX9_wordOf 4 (some .int), Cond.methodLink RX9 143 yX9_wordText, Cond.static yX9_wordText, Cond.code yX9_wordText cX9_wordText 1 (some (.object "java/lang/String")), Cond.methodLink RX9 147 yX9_isWord, Cond.instanceMethod yX9_isWord, Cond.selects RX9 yX9_isWord yX9_isWord, Cond.code yX9_isWord cX9_isWord 5 (some .boolean), Cond.methodLink RX9 151 yJ0_length_8abf5, Cond.instanceMethod yJ0_length_8abf5, Cond.selects RJ0 yJ0_length_8abf5 yJ0_length_8abf5, Cond.initialized RJ0, Cond.code yJ0_length_8abf5 cJ0_length_8abf5 1 (some .int)]
def wsX11_orders_r4 : List Cond := [Cond.fieldLink RJ0 9 "java/lang/String" "value" "[B", Cond.methodLink RJ0 335 yJ0_coder_7d493, Cond.instanceMethod yJ0_coder_7d493, Cond.selects RJ0 yJ0_coder_7d493 yJ0_coder_7d493, Cond.code yJ0_coder_7d493 cJ0_coder_7d493 1 (some .byte), Cond.fieldLink RJ0 38 "java/lang/String" "COMPACT_STRINGS" "Z", Cond.fieldLink RJ0 15 "java/lang/String" "coder" "B", Cond.methodLink RX9 156 yJ0_charAt_5068e, Cond.instanceMethod yJ0_charAt_5068e, Cond.selects RJ0 yJ0_charAt_5068e yJ0_charAt_5068e, Cond.code yJ0_charAt_5068e cJ0_charAt_5068e 2 (some .char), Cond.methodLink RJ0 492 yJ0_isLatin1_aae02, Cond.instanceMethod yJ0_isLatin1_aae02, Cond.selects RJ0 yJ0_isLatin1_aae02 yJ0_isLatin1_aae02, Cond.code yJ0_isLatin1_aae02 cJ0_isLatin1_aae02 1 (some .boolean), Cond.methodLink RJ0 495 yJ1_charAt_3b067, Cond.static yJ1_charAt_3b067, Cond.initialized RJ1, Cond.code yJ1_charAt_3b067 cJ1_charAt_3b067 2 (some .char), Cond.methodLink RJ1 9 yJ0_checkIndex_df160, Cond.static yJ0_checkIndex_df160, Cond.code yJ0_checkIndex_df160 cJ0_checkIndex_df160 2 none, Cond.fieldLink RJ0 1053 "jdk/internal/util/Preconditions" "SIOOBE_FORMATTER" "Ljava/util/function/BiFunction;", Cond.methodLink RJ0 1059 yJ3_checkIndex_8e157]
def wsX11_orders_r5 : List Cond := [Cond.static yJ3_checkIndex_8e157, Cond.initialized RJ3, Cond.code yJ3_checkIndex_8e157 cJ3_checkIndex_8e157 3 (some .int), Cond.methodLink RJ0 498 yJ2_charAt_3b067, Cond.static yJ2_charAt_3b067, Cond.initialized RJ2, Cond.code yJ2_charAt_3b067 cJ2_charAt_3b067 2 (some .char), Cond.methodLink RJ2 67 yJ2_checkIndex_2214a, Cond.static yJ2_checkIndex_2214a, Cond.code yJ2_checkIndex_2214a cJ2_checkIndex_2214a 2 none, Cond.methodLink RJ2 48 yJ2_length_9d52b, Cond.static yJ2_length_9d52b, Cond.code yJ2_length_9d52b cJ2_length_9d52b 1 (some .int), Cond.methodLink RJ2 414 yJ0_checkIndex_df160, Cond.methodLink RJ2 71 yJ2_getChar_3b067, Cond.static yJ2_getChar_3b067, Cond.code yJ2_getChar_3b067 cJ2_getChar_3b067 2 (some .char), Cond.fieldLink RJ2 44 "java/lang/StringUTF16" "$assertionsDisabled" "Z", Cond.fieldLink RJ2 59 "java/lang/StringUTF16" "HI_BYTE_SHIFT" "I", Cond.fieldLink RJ2 63 "java/lang/StringUTF16" "LO_BYTE_SHIFT" "I", Cond.methodLink RX9 140 yX9_isSign, Cond.static yX9_isSign, Cond.code yX9_isSign cX9_isSign 1 (some .boolean), Cond.methodLink RX9 121 yX9_numberOf]
def wsX11_orders_r6 : List Cond := [Cond.instanceMethod yX9_numberOf, Cond.selects RX9 yX9_numberOf yX9_numberOf, Cond.code yX9_numberOf cX9_numberOf 5 (some .int), Cond.methodLink RX9 124 yX9_addToken, Cond.instanceMethod yX9_addToken, Cond.selects RX9 yX9_addToken yX9_addToken, Cond.code yX9_addToken cX9_addToken 4 none, Cond.fieldLink RX9 15 "PetrolBoard$Reader" "tokens" "[I", Cond.fieldLink RX9 21 "PetrolBoard$Reader" "places" "[I", Cond.fieldLink RX9 18 "PetrolBoard$Reader" "values" "[I", Cond.methodLink RX9 59 yX9_step, Cond.instanceMethod yX9_step, Cond.selects RX9 yX9_step yX9_step, Cond.code yX9_step cX9_step 1 none, Cond.methodLink RX9 65 yX9_statement, Cond.instanceMethod yX9_statement, Cond.selects RX9 yX9_statement yX9_statement, Cond.code yX9_statement cX9_statement 2 (some .boolean), Cond.fieldLink RX9 27 "PetrolBoard$Reader" "head" "[I", Cond.fieldLink RX9 30 "PetrolBoard$Reader" "first" "[I", Cond.fieldLink RX9 33 "PetrolBoard$Reader" "second" "[I", Cond.methodLink RX9 79 yX9_sum, Cond.instanceMethod yX9_sum, Cond.selects RX9 yX9_sum yX9_sum]
def wsX11_orders_r7 : List Cond := [Cond.code yX9_sum cX9_sum 4 (some .boolean), Cond.methodLink RX9 106 yX9_product, Cond.instanceMethod yX9_product, Cond.selects RX9 yX9_product yX9_product, Cond.methodLink RX9 82 yX9_emit, Cond.instanceMethod yX9_emit, Cond.selects RX9 yX9_emit yX9_emit, Cond.code yX9_emit cX9_emit 2 none, Cond.fieldLink RX9 24 "PetrolBoard$Reader" "code" "[I", Cond.code yX9_atom cX9_atom 3 (some .boolean), Cond.methodLink RX9 94 yX9_numberHere, Cond.instanceMethod yX9_numberHere, Cond.selects RX9 yX9_numberHere yX9_numberHere, Cond.code yX9_numberHere cX9_numberHere 1 (some .int), Cond.methodLink RX9 69 yX9_taken, Cond.instanceMethod yX9_taken, Cond.selects RX9 yX9_taken yX9_taken, Cond.code yX9_taken cX9_taken 2 (some .boolean), Cond.code yX9_product cX9_product 4 (some .boolean), Cond.methodLink RX9 109 yX9_atom, Cond.instanceMethod yX9_atom, Cond.selects RX9 yX9_atom yX9_atom, Cond.methodLink RX9 85 yX9_condition, Cond.instanceMethod yX9_condition]
def wsX11_orders_r8 : List Cond := [Cond.selects RX9 yX9_condition yX9_condition, Cond.code yX9_condition cX9_condition 2 (some .boolean), Cond.methodLink RX9 91 yX9_either, Cond.instanceMethod yX9_either, Cond.selects RX9 yX9_either yX9_either, Cond.code yX9_either cX9_either 3 (some .boolean), Cond.methodLink RX9 97 yX9_all, Cond.instanceMethod yX9_all, Cond.selects RX9 yX9_all yX9_all, Cond.code yX9_all cX9_all 3 (some .boolean), Cond.methodLink RX9 100 yX9_one, Cond.instanceMethod yX9_one, Cond.selects RX9 yX9_one yX9_one, Cond.code yX9_one cX9_one 3 (some .boolean), Cond.methodLink RX9 103 yX9_opened, Cond.instanceMethod yX9_opened, Cond.selects RX9 yX9_opened yX9_opened, Cond.code yX9_opened cX9_opened 3 (some .boolean), Cond.methodLink RX9 88 yX9_amountOf, Cond.instanceMethod yX9_amountOf, Cond.selects RX9 yX9_amountOf yX9_amountOf, Cond.code yX9_amountOf cX9_amountOf 3 (some .boolean), Cond.methodLink RX9 72 yX9_place, Cond.instanceMethod yX9_place]
def wsX11_orders_r9 : List Cond := [Cond.selects RX9 yX9_place yX9_place, Cond.code yX9_place cX9_place 1 (some .int), Cond.methodLink RX11 134 yX7_init, Cond.instanceMethod yX7_init, Cond.code yX7_init cX7_init 6 none, Cond.methodLink RX7 3 objectInit, Cond.instanceMethod objectInit, Cond.code objectInit ⟨#[0xb1]⟩ 1 none, Cond.fieldLink RX7 9 "PetrolBoard$Orders" "month" "I", Cond.fieldLink RX7 15 "PetrolBoard$Orders" "toldOn" "I", Cond.fieldLink RX7 18 "PetrolBoard$Reader" "statements" "I", Cond.fieldLink RX7 27 "PetrolBoard$Reader" "used" "I", Cond.fieldLink RX7 30 "PetrolBoard$Reader" "head" "[I", Cond.fieldLink RX7 40 "PetrolBoard$Orders" "head" "[I", Cond.fieldLink RX7 41 "PetrolBoard$Reader" "first" "[I", Cond.fieldLink RX7 44 "PetrolBoard$Orders" "first" "[I", Cond.fieldLink RX7 45 "PetrolBoard$Reader" "second" "[I", Cond.fieldLink RX7 48 "PetrolBoard$Orders" "second" "[I", Cond.fieldLink RX7 49 "PetrolBoard$Reader" "code" "[I", Cond.fieldLink RX7 52 "PetrolBoard$Orders" "code" "[I", Cond.methodLink RX7 34 yJ7_copyOf_59c91, Cond.static yJ7_copyOf_59c91, Cond.initialized RJ7, Cond.code yJ7_copyOf_59c91 cJ7_copyOf_59c91 3 (some (.array .int))]
def wsX11_orders_r10 : List Cond := [Cond.methodLink RJ7 316 ⟨"[I", "clone", "()Ljava/lang/Object;"⟩, Cond.sameMethod "[I" "java/lang/Object" "clone" "()Ljava/lang/Object;", Cond.native ⟨"java/lang/Object", "clone", "()Ljava/lang/Object;"⟩, Cond.instanceMethod ⟨"java/lang/Object", "clone", "()Ljava/lang/Object;"⟩, Cond.selects "[I" ⟨"[I", "clone", "()Ljava/lang/Object;"⟩ ⟨"java/lang/Object", "clone", "()Ljava/lang/Object;"⟩, Cond.classLink RJ7 317 "[I", Cond.arrayClass .int, Cond.methodLink RJ7 304 Lib.Math.min.name, Cond.methodLink RJ7 150 arraycopyName, Cond.native arraycopyName, Cond.static arraycopyName, Cond.initialized "java/lang/System", Cond.methodLink RX11 137 yX6_add, Cond.instanceMethod yX6_add, Cond.selects RX6 yX6_add yX6_add, Cond.initialized RX6, Cond.code yX6_add cX6_add 2 (some .int), Cond.fieldLink RX6 24 "PetrolBoard$OrderBook" "number" "I", Cond.fieldLink RX6 11 "PetrolBoard$OrderBook" "told" "[LPetrolBoard$Orders;"]
def wsX11_orders : List Cond := .code yX11_orders cX11_orders 3 (some .int) :: ((wsX11_orders_r1 ++ (wsX11_orders_r2 ++ (wsX11_orders_r3 ++ (wsX11_orders_r4 ++ (wsX11_orders_r5 ++ (wsX11_orders_r6 ++ (wsX11_orders_r7 ++ (wsX11_orders_r8 ++ (wsX11_orders_r9 ++ wsX11_orders_r10))))))))) ++ wsX110 ++ wsX90 ++ wsX60 ++ wsX70)
def wsX11_fault : List Cond := .code yX11_fault cX11_fault 1 (some .int) :: ([.fieldLink RX11 9 "PetrolBoard" "faultPlace" "I"] ++ wsX110)
def wsX11_rule_r1 : List Cond := [Cond.fieldLink RX11 30 "PetrolBoard" "orderBook" "LPetrolBoard$OrderBook;", Cond.methodLink RX11 122 yX11_isMonth, Cond.static yX11_isMonth, Cond.initialized RX11, Cond.code yX11_isMonth cX11_isMonth 1 (some .boolean), Cond.methodLink RX11 88 yX11_within, Cond.static yX11_within, Cond.code yX11_within cX11_within 3 (some .boolean), Cond.methodLink RX11 100 yX11_isDay, Cond.static yX11_isDay, Cond.code yX11_isDay cX11_isDay 1 (some .boolean), Cond.methodLink RX11 140 yX6_inForce, Cond.instanceMethod yX6_inForce, Cond.selects RX6 yX6_inForce yX6_inForce, Cond.initialized RX6, Cond.code yX6_inForce cX6_inForce 8 (some .int), Cond.fieldLink RX6 24 "PetrolBoard$OrderBook" "number" "I", Cond.fieldLink RX6 11 "PetrolBoard$OrderBook" "told" "[LPetrolBoard$Orders;", Cond.fieldLink RX6 28 "PetrolBoard$Orders" "toldOn" "I", Cond.fieldLink RX6 31 "PetrolBoard$Orders" "month" "I", Cond.methodLink RX11 144 yX6_amount, Cond.instanceMethod yX6_amount, Cond.selects RX6 yX6_amount yX6_amount, Cond.code yX6_amount cX6_amount 5 (some .int)]
def wsX11_rule_r2 : List Cond := [Cond.methodLink RX6 38 yX6_ordersOf, Cond.instanceMethod yX6_ordersOf, Cond.selects RX6 yX6_ordersOf yX6_ordersOf, Cond.code yX6_ordersOf cX6_ordersOf 4 (some (.object "PetrolBoard$Orders")), Cond.methodLink RX6 34 yX6_inForce, Cond.static yX11_usual, Cond.code yX11_usual cX11_usual 1 (some .int), Cond.fieldLink RX11 426 "PetrolBoard" "USUAL" "[I", Cond.methodLink RX6 46 yX7_amount, Cond.instanceMethod yX7_amount, Cond.selects RX7 yX7_amount yX7_amount, Cond.initialized RX7, Cond.code yX7_amount cX7_amount 3 (some .int), Cond.fieldLink RX7 44 "PetrolBoard$Orders" "first" "[I", Cond.fieldLink RX7 40 "PetrolBoard$Orders" "head" "[I"]
def wsX11_rule : List Cond := .code yX11_rule cX11_rule 4 (some .int) :: ((wsX11_rule_r1 ++ wsX11_rule_r2) ++ wsX110 ++ wsX60 ++ wsX70)
def wsX11_units_r1 : List Cond := [Cond.fieldLink RX11 16 "PetrolBoard" "holders" "LPetrolBoard$Holders;", Cond.fieldLink RX11 30 "PetrolBoard" "orderBook" "LPetrolBoard$OrderBook;", Cond.methodLink RX11 96 yX2_has, Cond.instanceMethod yX2_has, Cond.selects RX2 yX2_has yX2_has, Cond.initialized RX2, Cond.code yX2_has cX2_has 2 (some .boolean), Cond.fieldLink RX2 42 "PetrolBoard$Holders" "number" "I", Cond.methodLink RX11 122 yX11_isMonth, Cond.static yX11_isMonth, Cond.initialized RX11, Cond.code yX11_isMonth cX11_isMonth 1 (some .boolean), Cond.methodLink RX11 88 yX11_within, Cond.static yX11_within, Cond.code yX11_within cX11_within 3 (some .boolean), Cond.methodLink RX11 100 yX11_isDay, Cond.static yX11_isDay, Cond.code yX11_isDay cX11_isDay 1 (some .boolean), Cond.methodLink RX11 147 yX6_unitsOf, Cond.instanceMethod yX6_unitsOf, Cond.selects RX6 yX6_unitsOf yX6_unitsOf, Cond.initialized RX6, Cond.code yX6_unitsOf cX6_unitsOf 6 (some .int), Cond.fieldLink RX6 20 "PetrolBoard$OrderBook" "machine" "LPetrolBoard$Machine;"]
def wsX11_units_r2 : List Cond := [Cond.methodLink RX6 38 yX6_ordersOf, Cond.instanceMethod yX6_ordersOf, Cond.selects RX6 yX6_ordersOf yX6_ordersOf, Cond.code yX6_ordersOf cX6_ordersOf 4 (some (.object "PetrolBoard$Orders")), Cond.fieldLink RX6 11 "PetrolBoard$OrderBook" "told" "[LPetrolBoard$Orders;", Cond.methodLink RX6 34 yX6_inForce, Cond.instanceMethod yX6_inForce, Cond.selects RX6 yX6_inForce yX6_inForce, Cond.code yX6_inForce cX6_inForce 8 (some .int), Cond.fieldLink RX6 24 "PetrolBoard$OrderBook" "number" "I", Cond.fieldLink RX6 28 "PetrolBoard$Orders" "toldOn" "I", Cond.fieldLink RX6 31 "PetrolBoard$Orders" "month" "I", Cond.methodLink RX6 49 yX2_has, Cond.methodLink RX6 55 yX6_putHolder, Cond.instanceMethod yX6_putHolder, Cond.selects RX6 yX6_putHolder yX6_putHolder, Cond.code yX6_putHolder cX6_putHolder 5 none, Cond.fieldLink RX6 93 "PetrolBoard$Machine" "names" "[I", Cond.fieldLink RX6 100 "PetrolBoard$Holders" "size" "[I", Cond.fieldLink RX6 103 "PetrolBoard$Holders" "town" "[I", Cond.methodLink RX6 96 yX2_kindOn, Cond.instanceMethod yX2_kindOn, Cond.selects RX2 yX2_kindOn yX2_kindOn, Cond.code yX2_kindOn cX2_kindOn 8 (some .int)]
def wsX11_units_r3 : List Cond := [Cond.fieldLink RX2 46 "PetrolBoard$Holders" "notes" "I", Cond.fieldLink RX2 27 "PetrolBoard$Holders" "noteOf" "[I", Cond.fieldLink RX2 33 "PetrolBoard$Holders" "from" "[I", Cond.fieldLink RX2 36 "PetrolBoard$Holders" "toldOn" "[I", Cond.fieldLink RX2 39 "PetrolBoard$Holders" "undoneOn" "[I", Cond.fieldLink RX2 30 "PetrolBoard$Holders" "kind" "[I", Cond.methodLink RX6 59 yX6_putJourney, Cond.instanceMethod yX6_putJourney, Cond.selects RX6 yX6_putJourney yX6_putJourney, Cond.code yX6_putJourney cX6_putJourney 4 none, Cond.methodLink RX6 63 yX7_stops, Cond.instanceMethod yX7_stops, Cond.selects RX7 yX7_stops yX7_stops, Cond.initialized RX7, Cond.code yX7_stops cX7_stops 3 (some .boolean), Cond.fieldLink RX7 40 "PetrolBoard$Orders" "head" "[I", Cond.methodLink RX7 57 yX7_holds, Cond.instanceMethod yX7_holds, Cond.selects RX7 yX7_holds yX7_holds, Cond.code yX7_holds cX7_holds 3 (some .boolean), Cond.fieldLink RX7 48 "PetrolBoard$Orders" "second" "[I", Cond.fieldLink RX7 52 "PetrolBoard$Orders" "code" "[I", Cond.methodLink RX7 61 yX5_result, Cond.instanceMethod yX5_result]
def wsX11_units_r4 : List Cond := [Cond.selects RX5 yX5_result yX5_result, Cond.initialized RX5, Cond.code yX5_result cX5_result 6 (some .int), Cond.methodLink RX5 18 Lib.Math.max.name, Cond.static Lib.Math.max.name, Cond.initialized "java/lang/Math", Cond.code Lib.Math.max.name Lib.Math.max.code 2 (some .int), Cond.fieldLink RX5 15 "PetrolBoard$Machine" "stack" "[I", Cond.methodLink RX5 24 yX5_nameValue, Cond.instanceMethod yX5_nameValue, Cond.selects RX5 yX5_nameValue yX5_nameValue, Cond.code yX5_nameValue cX5_nameValue 2 (some .int), Cond.fieldLink RX5 9 "PetrolBoard$Machine" "names" "[I", Cond.methodLink RX5 28 yX5_joined, Cond.static yX5_joined, Cond.code yX5_joined cX5_joined 5 (some .int), Cond.constantLong RX5 32 (-1000000000), Cond.constantLong RX5 34 (1000000000), Cond.methodLink RX5 36 Lib.MathLoose.min_long.x, Cond.static Lib.MathLoose.min_long.x, Cond.code Lib.MathLoose.min_long.x Lib.MathLoose.min_long.code 4 (some .long), Cond.methodLink RX5 40 Lib.MathLoose.max_long.x, Cond.static Lib.MathLoose.max_long.x, Cond.code Lib.MathLoose.max_long.x Lib.MathLoose.max_long.code 4 (some .long)]
def wsX11_units_r5 : List Cond := [Cond.methodLink RX6 67 yX7_dealt, Cond.instanceMethod yX7_dealt, Cond.selects RX7 yX7_dealt yX7_dealt, Cond.code yX7_dealt cX7_dealt 5 (some .int), Cond.fieldLink RX7 44 "PetrolBoard$Orders" "first" "[I", Cond.methodLink RX7 67 Lib.Math.min.name, Cond.static Lib.Math.min.name, Cond.code Lib.Math.min.name Lib.Math.min.code 2 (some .int), Cond.methodLink RX7 73 Lib.Math.max.name]
def wsX11_units : List Cond := .code yX11_units cX11_units 4 (some .int) :: ((wsX11_units_r1 ++ (wsX11_units_r2 ++ (wsX11_units_r3 ++ (wsX11_units_r4 ++ wsX11_units_r5)))) ++ wsX110 ++ wsX20 ++ wsX60 ++ wsX70 ++ wsX50)
def wsX11_issue_r1 : List Cond := [Cond.fieldLink RX11 85 "PetrolBoard" "today" "I", Cond.fieldLink RX11 16 "PetrolBoard" "holders" "LPetrolBoard$Holders;", Cond.fieldLink RX11 37 "PetrolBoard" "coupons" "LPetrolBoard$Coupons;", Cond.fieldLink RX11 30 "PetrolBoard" "orderBook" "LPetrolBoard$OrderBook;", Cond.methodLink RX11 96 yX2_has, Cond.instanceMethod yX2_has, Cond.selects RX2 yX2_has yX2_has, Cond.initialized RX2, Cond.code yX2_has cX2_has 2 (some .boolean), Cond.fieldLink RX2 42 "PetrolBoard$Holders" "number" "I", Cond.methodLink RX11 122 yX11_isMonth, Cond.static yX11_isMonth, Cond.initialized RX11, Cond.code yX11_isMonth cX11_isMonth 1 (some .boolean), Cond.methodLink RX11 88 yX11_within, Cond.static yX11_within, Cond.code yX11_within cX11_within 3 (some .boolean), Cond.methodLink RX11 151 yX0_isIssued, Cond.instanceMethod yX0_isIssued, Cond.selects RX0 yX0_isIssued yX0_isIssued, Cond.initialized RX0, Cond.code yX0_isIssued cX0_isIssued 4 (some .boolean), Cond.fieldLink RX0 9 "PetrolBoard$Coupons" "issued" "[I", Cond.methodLink RX11 147 yX6_unitsOf]
def wsX11_issue_r2 : List Cond := [Cond.instanceMethod yX6_unitsOf, Cond.selects RX6 yX6_unitsOf yX6_unitsOf, Cond.initialized RX6, Cond.code yX6_unitsOf cX6_unitsOf 6 (some .int), Cond.fieldLink RX6 20 "PetrolBoard$OrderBook" "machine" "LPetrolBoard$Machine;", Cond.methodLink RX6 38 yX6_ordersOf, Cond.instanceMethod yX6_ordersOf, Cond.selects RX6 yX6_ordersOf yX6_ordersOf, Cond.code yX6_ordersOf cX6_ordersOf 4 (some (.object "PetrolBoard$Orders")), Cond.fieldLink RX6 11 "PetrolBoard$OrderBook" "told" "[LPetrolBoard$Orders;", Cond.methodLink RX6 34 yX6_inForce, Cond.instanceMethod yX6_inForce, Cond.selects RX6 yX6_inForce yX6_inForce, Cond.code yX6_inForce cX6_inForce 8 (some .int), Cond.fieldLink RX6 24 "PetrolBoard$OrderBook" "number" "I", Cond.fieldLink RX6 28 "PetrolBoard$Orders" "toldOn" "I", Cond.fieldLink RX6 31 "PetrolBoard$Orders" "month" "I", Cond.methodLink RX6 49 yX2_has, Cond.methodLink RX6 55 yX6_putHolder, Cond.instanceMethod yX6_putHolder, Cond.selects RX6 yX6_putHolder yX6_putHolder, Cond.code yX6_putHolder cX6_putHolder 5 none, Cond.fieldLink RX6 93 "PetrolBoard$Machine" "names" "[I", Cond.fieldLink RX6 100 "PetrolBoard$Holders" "size" "[I"]
def wsX11_issue_r3 : List Cond := [Cond.fieldLink RX6 103 "PetrolBoard$Holders" "town" "[I", Cond.methodLink RX6 96 yX2_kindOn, Cond.instanceMethod yX2_kindOn, Cond.selects RX2 yX2_kindOn yX2_kindOn, Cond.code yX2_kindOn cX2_kindOn 8 (some .int), Cond.fieldLink RX2 46 "PetrolBoard$Holders" "notes" "I", Cond.fieldLink RX2 27 "PetrolBoard$Holders" "noteOf" "[I", Cond.fieldLink RX2 33 "PetrolBoard$Holders" "from" "[I", Cond.fieldLink RX2 36 "PetrolBoard$Holders" "toldOn" "[I", Cond.fieldLink RX2 39 "PetrolBoard$Holders" "undoneOn" "[I", Cond.fieldLink RX2 30 "PetrolBoard$Holders" "kind" "[I", Cond.methodLink RX6 59 yX6_putJourney, Cond.instanceMethod yX6_putJourney, Cond.selects RX6 yX6_putJourney yX6_putJourney, Cond.code yX6_putJourney cX6_putJourney 4 none, Cond.methodLink RX6 63 yX7_stops, Cond.instanceMethod yX7_stops, Cond.selects RX7 yX7_stops yX7_stops, Cond.initialized RX7, Cond.code yX7_stops cX7_stops 3 (some .boolean), Cond.fieldLink RX7 40 "PetrolBoard$Orders" "head" "[I", Cond.methodLink RX7 57 yX7_holds, Cond.instanceMethod yX7_holds, Cond.selects RX7 yX7_holds yX7_holds]
def wsX11_issue_r4 : List Cond := [Cond.code yX7_holds cX7_holds 3 (some .boolean), Cond.fieldLink RX7 48 "PetrolBoard$Orders" "second" "[I", Cond.fieldLink RX7 52 "PetrolBoard$Orders" "code" "[I", Cond.methodLink RX7 61 yX5_result, Cond.instanceMethod yX5_result, Cond.selects RX5 yX5_result yX5_result, Cond.initialized RX5, Cond.code yX5_result cX5_result 6 (some .int), Cond.methodLink RX5 18 Lib.Math.max.name, Cond.static Lib.Math.max.name, Cond.initialized "java/lang/Math", Cond.code Lib.Math.max.name Lib.Math.max.code 2 (some .int), Cond.fieldLink RX5 15 "PetrolBoard$Machine" "stack" "[I", Cond.methodLink RX5 24 yX5_nameValue, Cond.instanceMethod yX5_nameValue, Cond.selects RX5 yX5_nameValue yX5_nameValue, Cond.code yX5_nameValue cX5_nameValue 2 (some .int), Cond.fieldLink RX5 9 "PetrolBoard$Machine" "names" "[I", Cond.methodLink RX5 28 yX5_joined, Cond.static yX5_joined, Cond.code yX5_joined cX5_joined 5 (some .int), Cond.constantLong RX5 32 (-1000000000), Cond.constantLong RX5 34 (1000000000), Cond.methodLink RX5 36 Lib.MathLoose.min_long.x]
def wsX11_issue_r5 : List Cond := [Cond.static Lib.MathLoose.min_long.x, Cond.code Lib.MathLoose.min_long.x Lib.MathLoose.min_long.code 4 (some .long), Cond.methodLink RX5 40 Lib.MathLoose.max_long.x, Cond.static Lib.MathLoose.max_long.x, Cond.code Lib.MathLoose.max_long.x Lib.MathLoose.max_long.code 4 (some .long), Cond.methodLink RX6 67 yX7_dealt, Cond.instanceMethod yX7_dealt, Cond.selects RX7 yX7_dealt yX7_dealt, Cond.code yX7_dealt cX7_dealt 5 (some .int), Cond.fieldLink RX7 44 "PetrolBoard$Orders" "first" "[I", Cond.methodLink RX7 67 Lib.Math.min.name, Cond.static Lib.Math.min.name, Cond.code Lib.Math.min.name Lib.Math.min.code 2 (some .int), Cond.methodLink RX7 73 Lib.Math.max.name, Cond.methodLink RX11 154 yX0_add, Cond.instanceMethod yX0_add, Cond.selects RX0 yX0_add yX0_add, Cond.code yX0_add cX0_add 5 (some .int), Cond.fieldLink RX0 27 "PetrolBoard$Coupons" "books" "I"]
def wsX11_issue : List Cond := .code yX11_issue cX11_issue 4 (some .int) :: ((wsX11_issue_r1 ++ (wsX11_issue_r2 ++ (wsX11_issue_r3 ++ (wsX11_issue_r4 ++ wsX11_issue_r5)))) ++ wsX110 ++ wsX20 ++ wsX00 ++ wsX60 ++ wsX70 ++ wsX50)
def wsX11_lend_r1 : List Cond := [Cond.fieldLink RX11 37 "PetrolBoard" "coupons" "LPetrolBoard$Coupons;", Cond.fieldLink RX11 16 "PetrolBoard" "holders" "LPetrolBoard$Holders;", Cond.fieldLink RX11 44 "PetrolBoard" "pours" "LPetrolBoard$Pours;", Cond.fieldLink RX11 30 "PetrolBoard" "orderBook" "LPetrolBoard$OrderBook;", Cond.fieldLink RX11 85 "PetrolBoard" "today" "I", Cond.methodLink RX11 156 yX0_has, Cond.instanceMethod yX0_has, Cond.selects RX0 yX0_has yX0_has, Cond.initialized RX0, Cond.code yX0_has cX0_has 3 (some .boolean), Cond.fieldLink RX0 9 "PetrolBoard$Coupons" "issued" "[I", Cond.methodLink RX11 96 yX2_has, Cond.instanceMethod yX2_has, Cond.selects RX2 yX2_has yX2_has, Cond.initialized RX2, Cond.code yX2_has cX2_has 2 (some .boolean), Cond.fieldLink RX2 42 "PetrolBoard$Holders" "number" "I", Cond.methodLink RX11 157 yX0_holderOf, Cond.static yX0_holderOf, Cond.code yX0_holderOf cX0_holderOf 1 (some .int), Cond.methodLink RX11 160 yX0_isLent, Cond.instanceMethod yX0_isLent, Cond.selects RX0 yX0_isLent yX0_isLent, Cond.code yX0_isLent cX0_isLent 2 (some .boolean)]
def wsX11_lend_r2 : List Cond := [Cond.methodLink RX0 34 yX0_lentAs, Cond.instanceMethod yX0_lentAs, Cond.selects RX0 yX0_lentAs yX0_lentAs, Cond.code yX0_lentAs cX0_lentAs 3 (some .int), Cond.fieldLink RX0 31 "PetrolBoard$Coupons" "lentNumber" "I", Cond.fieldLink RX0 15 "PetrolBoard$Coupons" "lent" "[I", Cond.methodLink RX11 163 yX8_wasHandedIn, Cond.instanceMethod yX8_wasHandedIn, Cond.selects RX8 yX8_wasHandedIn yX8_wasHandedIn, Cond.initialized RX8, Cond.code yX8_wasHandedIn cX8_wasHandedIn 3 (some .boolean), Cond.fieldLink RX8 36 "PetrolBoard$Pours" "number" "I", Cond.fieldLink RX8 18 "PetrolBoard$Pours" "coupon" "[I", Cond.fieldLink RX8 27 "PetrolBoard$Pours" "verdict" "[I", Cond.methodLink RX11 166 yX0_monthOf, Cond.static yX0_monthOf, Cond.code yX0_monthOf cX0_monthOf 1 (some .int), Cond.methodLink RX11 144 yX6_amount, Cond.instanceMethod yX6_amount, Cond.selects RX6 yX6_amount yX6_amount, Cond.initialized RX6, Cond.code yX6_amount cX6_amount 5 (some .int), Cond.methodLink RX6 38 yX6_ordersOf, Cond.instanceMethod yX6_ordersOf]
def wsX11_lend_r3 : List Cond := [Cond.selects RX6 yX6_ordersOf yX6_ordersOf, Cond.code yX6_ordersOf cX6_ordersOf 4 (some (.object "PetrolBoard$Orders")), Cond.fieldLink RX6 11 "PetrolBoard$OrderBook" "told" "[LPetrolBoard$Orders;", Cond.methodLink RX6 34 yX6_inForce, Cond.instanceMethod yX6_inForce, Cond.selects RX6 yX6_inForce yX6_inForce, Cond.code yX6_inForce cX6_inForce 8 (some .int), Cond.fieldLink RX6 24 "PetrolBoard$OrderBook" "number" "I", Cond.fieldLink RX6 28 "PetrolBoard$Orders" "toldOn" "I", Cond.fieldLink RX6 31 "PetrolBoard$Orders" "month" "I", Cond.static yX11_usual, Cond.initialized RX11, Cond.code yX11_usual cX11_usual 1 (some .int), Cond.fieldLink RX11 426 "PetrolBoard" "USUAL" "[I", Cond.methodLink RX6 46 yX7_amount, Cond.instanceMethod yX7_amount, Cond.selects RX7 yX7_amount yX7_amount, Cond.initialized RX7, Cond.code yX7_amount cX7_amount 3 (some .int), Cond.fieldLink RX7 44 "PetrolBoard$Orders" "first" "[I", Cond.fieldLink RX7 40 "PetrolBoard$Orders" "head" "[I", Cond.methodLink RX11 169 yX0_lentOfBook, Cond.instanceMethod yX0_lentOfBook, Cond.selects RX0 yX0_lentOfBook yX0_lentOfBook]
def wsX11_lend_r4 : List Cond := [Cond.code yX0_lentOfBook cX0_lentOfBook 4 (some .int), Cond.methodLink RX11 172 yX0_addLent, Cond.instanceMethod yX0_addLent, Cond.selects RX0 yX0_addLent yX0_addLent, Cond.code yX0_addLent cX0_addLent 3 (some .boolean), Cond.fieldLink RX0 18 "PetrolBoard$Coupons" "lentTo" "[I"]
def wsX11_lend : List Cond := .code yX11_lend cX11_lend 4 (some .boolean) :: ((wsX11_lend_r1 ++ (wsX11_lend_r2 ++ (wsX11_lend_r3 ++ wsX11_lend_r4))) ++ wsX110 ++ wsX00 ++ wsX20 ++ wsX80 ++ wsX60 ++ wsX70)
def wsX11_owner : List Cond := .code yX11_owner cX11_owner 2 (some .int) :: ([.fieldLink RX11 37 "PetrolBoard" "coupons" "LPetrolBoard$Coupons;", .methodLink RX11 175 yX0_ownerOf, .instanceMethod yX0_ownerOf, .selects RX0 yX0_ownerOf yX0_ownerOf, .initialized RX0, .code yX0_ownerOf cX0_ownerOf 3 (some .int), .fieldLink RX0 18 "PetrolBoard$Coupons" "lentTo" "[I", .methodLink RX0 38 yX0_has, .instanceMethod yX0_has, .selects RX0 yX0_has yX0_has, .code yX0_has cX0_has 3 (some .boolean), .fieldLink RX0 9 "PetrolBoard$Coupons" "issued" "[I", .methodLink RX0 34 yX0_lentAs, .instanceMethod yX0_lentAs, .selects RX0 yX0_lentAs yX0_lentAs, .code yX0_lentAs cX0_lentAs 3 (some .int), .fieldLink RX0 31 "PetrolBoard$Coupons" "lentNumber" "I", .fieldLink RX0 15 "PetrolBoard$Coupons" "lent" "[I", .methodLink RX0 42 yX0_holderOf, .static yX0_holderOf, .code yX0_holderOf cX0_holderOf 1 (some .int)] ++ wsX110 ++ wsX00)
def wsX11_station : List Cond := .code yX11_station cX11_station 1 (some .int) :: ([.fieldLink RX11 178 "PetrolBoard" "stationNumber" "I", .fieldLink RX11 50 "PetrolBoard" "stations" "[LPetrolBoard$Station;", .classLink RX11 48 RX10, .instantiable RX10 10, .initialized RX10, .instanceMethod yX10_init, .code yX10_init cX10_init 1 none, .methodLink RX10 3 objectInit, .instanceMethod objectInit, .code objectInit ⟨#[0xb1]⟩ 1 none, .arrayClass .int, .fieldLink RX10 9 "PetrolBoard$Station" "told" "[I", .fieldLink RX10 15 "PetrolBoard$Station" "dipDay" "[I", .fieldLink RX10 18 "PetrolBoard$Station" "deliveredThen" "[I", .fieldLink RX10 21 "PetrolBoard$Station" "pouredThen" "[I", .fieldLink RX10 24 "PetrolBoard$Station" "low" "[I", .fieldLink RX10 27 "PetrolBoard$Station" "high" "[I", .fieldLink RX10 30 "PetrolBoard$Station" "in" "[I"] ++ wsX110 ++ wsX100)
def wsX11_stationAt : List Cond := .code yX11_stationAt cX11_stationAt 2 (some (.object "PetrolBoard$Station")) :: ([.fieldLink RX11 178 "PetrolBoard" "stationNumber" "I", .fieldLink RX11 50 "PetrolBoard" "stations" "[LPetrolBoard$Station;"] ++ wsX110)
def wsX11_hasStation : List Cond := .code yX11_hasStation cX11_hasStation 2 (some .boolean) :: ([.fieldLink RX11 178 "PetrolBoard" "stationNumber" "I"] ++ wsX110)
def wsX11_isFarmerNow : List Cond := .code yX11_isFarmerNow cX11_isFarmerNow 2 (some .boolean) :: ([.fieldLink RX11 16 "PetrolBoard" "holders" "LPetrolBoard$Holders;", .fieldLink RX11 85 "PetrolBoard" "today" "I", .methodLink RX11 111 yX2_kindOn, .instanceMethod yX2_kindOn, .selects RX2 yX2_kindOn yX2_kindOn, .initialized RX2, .code yX2_kindOn cX2_kindOn 8 (some .int), .fieldLink RX2 46 "PetrolBoard$Holders" "notes" "I", .fieldLink RX2 27 "PetrolBoard$Holders" "noteOf" "[I", .fieldLink RX2 33 "PetrolBoard$Holders" "from" "[I", .fieldLink RX2 36 "PetrolBoard$Holders" "toldOn" "[I", .fieldLink RX2 39 "PetrolBoard$Holders" "undoneOn" "[I", .fieldLink RX2 30 "PetrolBoard$Holders" "kind" "[I"] ++ wsX110 ++ wsX20)
def wsX11_pour_r1 : List Cond := [Cond.fieldLink RX11 16 "PetrolBoard" "holders" "LPetrolBoard$Holders;", Cond.constant RX11 185 (99999), Cond.fieldLink RX11 44 "PetrolBoard" "pours" "LPetrolBoard$Pours;", Cond.fieldLink RX11 85 "PetrolBoard" "today" "I", Cond.fieldLink RX11 189 "PetrolBoard$Pours" "tenths" "[I", Cond.fieldLink RX11 30 "PetrolBoard" "orderBook" "LPetrolBoard$OrderBook;", Cond.fieldLink RX11 192 "PetrolBoard$Pours" "dyed" "[I", Cond.fieldLink RX11 198 "PetrolBoard$Pours" "ownerThen" "[I", Cond.fieldLink RX11 37 "PetrolBoard" "coupons" "LPetrolBoard$Coupons;", Cond.methodLink RX11 182 yX11_hasStation, Cond.instanceMethod yX11_hasStation, Cond.selects RX11 yX11_hasStation yX11_hasStation, Cond.initialized RX11, Cond.code yX11_hasStation cX11_hasStation 2 (some .boolean), Cond.fieldLink RX11 178 "PetrolBoard" "stationNumber" "I", Cond.methodLink RX11 96 yX2_has, Cond.instanceMethod yX2_has, Cond.selects RX2 yX2_has yX2_has, Cond.initialized RX2, Cond.code yX2_has cX2_has 2 (some .boolean), Cond.fieldLink RX2 42 "PetrolBoard$Holders" "number" "I", Cond.methodLink RX11 88 yX11_within, Cond.static yX11_within, Cond.code yX11_within cX11_within 3 (some .boolean)]
def wsX11_pour_r2 : List Cond := [Cond.methodLink RX11 186 yX8_add, Cond.instanceMethod yX8_add, Cond.selects RX8 yX8_add yX8_add, Cond.initialized RX8, Cond.code yX8_add cX8_add 5 (some .int), Cond.fieldLink RX8 36 "PetrolBoard$Pours" "number" "I", Cond.fieldLink RX8 9 "PetrolBoard$Pours" "station" "[I", Cond.fieldLink RX8 15 "PetrolBoard$Pours" "holder" "[I", Cond.fieldLink RX8 18 "PetrolBoard$Pours" "coupon" "[I", Cond.fieldLink RX8 21 "PetrolBoard$Pours" "day" "[I", Cond.fieldLink RX8 27 "PetrolBoard$Pours" "verdict" "[I", Cond.methodLink RX11 188 yX8_has, Cond.instanceMethod yX8_has, Cond.selects RX8 yX8_has yX8_has, Cond.code yX8_has cX8_has 2 (some .boolean), Cond.methodLink RX11 144 yX6_amount, Cond.instanceMethod yX6_amount, Cond.selects RX6 yX6_amount yX6_amount, Cond.initialized RX6, Cond.code yX6_amount cX6_amount 5 (some .int), Cond.methodLink RX6 38 yX6_ordersOf, Cond.instanceMethod yX6_ordersOf, Cond.selects RX6 yX6_ordersOf yX6_ordersOf, Cond.code yX6_ordersOf cX6_ordersOf 4 (some (.object "PetrolBoard$Orders"))]
def wsX11_pour_r3 : List Cond := [Cond.fieldLink RX6 11 "PetrolBoard$OrderBook" "told" "[LPetrolBoard$Orders;", Cond.methodLink RX6 34 yX6_inForce, Cond.instanceMethod yX6_inForce, Cond.selects RX6 yX6_inForce yX6_inForce, Cond.code yX6_inForce cX6_inForce 8 (some .int), Cond.fieldLink RX6 24 "PetrolBoard$OrderBook" "number" "I", Cond.fieldLink RX6 28 "PetrolBoard$Orders" "toldOn" "I", Cond.fieldLink RX6 31 "PetrolBoard$Orders" "month" "I", Cond.static yX11_usual, Cond.code yX11_usual cX11_usual 1 (some .int), Cond.fieldLink RX11 426 "PetrolBoard" "USUAL" "[I", Cond.methodLink RX6 46 yX7_amount, Cond.instanceMethod yX7_amount, Cond.selects RX7 yX7_amount yX7_amount, Cond.initialized RX7, Cond.code yX7_amount cX7_amount 3 (some .int), Cond.fieldLink RX7 44 "PetrolBoard$Orders" "first" "[I", Cond.fieldLink RX7 40 "PetrolBoard$Orders" "head" "[I", Cond.methodLink RX11 195 yX11_isFarmerNow, Cond.instanceMethod yX11_isFarmerNow, Cond.selects RX11 yX11_isFarmerNow yX11_isFarmerNow, Cond.code yX11_isFarmerNow cX11_isFarmerNow 2 (some .boolean), Cond.methodLink RX11 111 yX2_kindOn, Cond.instanceMethod yX2_kindOn]
def wsX11_pour_r4 : List Cond := [Cond.selects RX2 yX2_kindOn yX2_kindOn, Cond.code yX2_kindOn cX2_kindOn 8 (some .int), Cond.fieldLink RX2 46 "PetrolBoard$Holders" "notes" "I", Cond.fieldLink RX2 27 "PetrolBoard$Holders" "noteOf" "[I", Cond.fieldLink RX2 33 "PetrolBoard$Holders" "from" "[I", Cond.fieldLink RX2 36 "PetrolBoard$Holders" "toldOn" "[I", Cond.fieldLink RX2 39 "PetrolBoard$Holders" "undoneOn" "[I", Cond.fieldLink RX2 30 "PetrolBoard$Holders" "kind" "[I", Cond.methodLink RX11 175 yX0_ownerOf, Cond.instanceMethod yX0_ownerOf, Cond.selects RX0 yX0_ownerOf yX0_ownerOf, Cond.initialized RX0, Cond.code yX0_ownerOf cX0_ownerOf 3 (some .int), Cond.fieldLink RX0 18 "PetrolBoard$Coupons" "lentTo" "[I", Cond.methodLink RX0 38 yX0_has, Cond.instanceMethod yX0_has, Cond.selects RX0 yX0_has yX0_has, Cond.code yX0_has cX0_has 3 (some .boolean), Cond.fieldLink RX0 9 "PetrolBoard$Coupons" "issued" "[I", Cond.methodLink RX0 34 yX0_lentAs, Cond.instanceMethod yX0_lentAs, Cond.selects RX0 yX0_lentAs yX0_lentAs, Cond.code yX0_lentAs cX0_lentAs 3 (some .int), Cond.fieldLink RX0 31 "PetrolBoard$Coupons" "lentNumber" "I"]
def wsX11_pour_r5 : List Cond := [Cond.fieldLink RX0 15 "PetrolBoard$Coupons" "lent" "[I", Cond.methodLink RX0 42 yX0_holderOf, Cond.static yX0_holderOf, Cond.code yX0_holderOf cX0_holderOf 1 (some .int)]
def wsX11_pour : List Cond := .code yX11_pour cX11_pour 5 (some .int) :: ((wsX11_pour_r1 ++ (wsX11_pour_r2 ++ (wsX11_pour_r3 ++ (wsX11_pour_r4 ++ wsX11_pour_r5)))) ++ wsX110 ++ wsX80 ++ wsX20 ++ wsX60 ++ wsX70 ++ wsX00)
def wsX11_verdictOn_r1 : List Cond := [Cond.fieldLink RX11 44 "PetrolBoard" "pours" "LPetrolBoard$Pours;", Cond.fieldLink RX11 211 "PetrolBoard$Pours" "coupon" "[I", Cond.fieldLink RX11 37 "PetrolBoard" "coupons" "LPetrolBoard$Coupons;", Cond.fieldLink RX11 214 "PetrolBoard$Pours" "day" "[I", Cond.fieldLink RX11 30 "PetrolBoard" "orderBook" "LPetrolBoard$OrderBook;", Cond.fieldLink RX11 198 "PetrolBoard$Pours" "ownerThen" "[I", Cond.fieldLink RX11 217 "PetrolBoard$Pours" "holder" "[I", Cond.methodLink RX11 188 yX8_has, Cond.instanceMethod yX8_has, Cond.selects RX8 yX8_has yX8_has, Cond.initialized RX8, Cond.code yX8_has cX8_has 2 (some .boolean), Cond.fieldLink RX8 36 "PetrolBoard$Pours" "number" "I", Cond.methodLink RX11 156 yX0_has, Cond.instanceMethod yX0_has, Cond.selects RX0 yX0_has yX0_has, Cond.initialized RX0, Cond.code yX0_has cX0_has 3 (some .boolean), Cond.fieldLink RX0 9 "PetrolBoard$Coupons" "issued" "[I", Cond.methodLink RX11 163 yX8_wasHandedIn, Cond.instanceMethod yX8_wasHandedIn, Cond.selects RX8 yX8_wasHandedIn yX8_wasHandedIn, Cond.code yX8_wasHandedIn cX8_wasHandedIn 3 (some .boolean), Cond.fieldLink RX8 18 "PetrolBoard$Pours" "coupon" "[I"]
def wsX11_verdictOn_r2 : List Cond := [Cond.fieldLink RX8 27 "PetrolBoard$Pours" "verdict" "[I", Cond.methodLink RX11 166 yX0_monthOf, Cond.static yX0_monthOf, Cond.code yX0_monthOf cX0_monthOf 1 (some .int), Cond.methodLink RX11 144 yX6_amount, Cond.instanceMethod yX6_amount, Cond.selects RX6 yX6_amount yX6_amount, Cond.initialized RX6, Cond.code yX6_amount cX6_amount 5 (some .int), Cond.methodLink RX6 38 yX6_ordersOf, Cond.instanceMethod yX6_ordersOf, Cond.selects RX6 yX6_ordersOf yX6_ordersOf, Cond.code yX6_ordersOf cX6_ordersOf 4 (some (.object "PetrolBoard$Orders")), Cond.fieldLink RX6 11 "PetrolBoard$OrderBook" "told" "[LPetrolBoard$Orders;", Cond.methodLink RX6 34 yX6_inForce, Cond.instanceMethod yX6_inForce, Cond.selects RX6 yX6_inForce yX6_inForce, Cond.code yX6_inForce cX6_inForce 8 (some .int), Cond.fieldLink RX6 24 "PetrolBoard$OrderBook" "number" "I", Cond.fieldLink RX6 28 "PetrolBoard$Orders" "toldOn" "I", Cond.fieldLink RX6 31 "PetrolBoard$Orders" "month" "I", Cond.static yX11_usual, Cond.initialized RX11, Cond.code yX11_usual cX11_usual 1 (some .int)]
def wsX11_verdictOn_r3 : List Cond := [Cond.fieldLink RX11 426 "PetrolBoard" "USUAL" "[I", Cond.methodLink RX6 46 yX7_amount, Cond.instanceMethod yX7_amount, Cond.selects RX7 yX7_amount yX7_amount, Cond.initialized RX7, Cond.code yX7_amount cX7_amount 3 (some .int), Cond.fieldLink RX7 44 "PetrolBoard$Orders" "first" "[I", Cond.fieldLink RX7 40 "PetrolBoard$Orders" "head" "[I"]
def wsX11_verdictOn : List Cond := .code yX11_verdictOn cX11_verdictOn 5 (some .int) :: ((wsX11_verdictOn_r1 ++ (wsX11_verdictOn_r2 ++ wsX11_verdictOn_r3)) ++ wsX110 ++ wsX80 ++ wsX00 ++ wsX60 ++ wsX70)
def wsX11_handIn_r1 : List Cond := [Cond.fieldLink RX11 44 "PetrolBoard" "pours" "LPetrolBoard$Pours;", Cond.fieldLink RX11 201 "PetrolBoard$Pours" "number" "I", Cond.fieldLink RX11 202 "PetrolBoard$Pours" "station" "[I", Cond.fieldLink RX11 205 "PetrolBoard$Pours" "verdict" "[I", Cond.methodLink RX11 182 yX11_hasStation, Cond.instanceMethod yX11_hasStation, Cond.selects RX11 yX11_hasStation yX11_hasStation, Cond.initialized RX11, Cond.code yX11_hasStation cX11_hasStation 2 (some .boolean), Cond.fieldLink RX11 178 "PetrolBoard" "stationNumber" "I", Cond.methodLink RX11 208 yX11_verdictOn, Cond.instanceMethod yX11_verdictOn, Cond.selects RX11 yX11_verdictOn yX11_verdictOn, Cond.code yX11_verdictOn cX11_verdictOn 5 (some .int), Cond.fieldLink RX11 211 "PetrolBoard$Pours" "coupon" "[I", Cond.fieldLink RX11 37 "PetrolBoard" "coupons" "LPetrolBoard$Coupons;", Cond.fieldLink RX11 214 "PetrolBoard$Pours" "day" "[I", Cond.fieldLink RX11 30 "PetrolBoard" "orderBook" "LPetrolBoard$OrderBook;", Cond.fieldLink RX11 198 "PetrolBoard$Pours" "ownerThen" "[I", Cond.fieldLink RX11 217 "PetrolBoard$Pours" "holder" "[I", Cond.methodLink RX11 188 yX8_has, Cond.instanceMethod yX8_has, Cond.selects RX8 yX8_has yX8_has, Cond.initialized RX8]
def wsX11_handIn_r2 : List Cond := [Cond.code yX8_has cX8_has 2 (some .boolean), Cond.fieldLink RX8 36 "PetrolBoard$Pours" "number" "I", Cond.methodLink RX11 156 yX0_has, Cond.instanceMethod yX0_has, Cond.selects RX0 yX0_has yX0_has, Cond.initialized RX0, Cond.code yX0_has cX0_has 3 (some .boolean), Cond.fieldLink RX0 9 "PetrolBoard$Coupons" "issued" "[I", Cond.methodLink RX11 163 yX8_wasHandedIn, Cond.instanceMethod yX8_wasHandedIn, Cond.selects RX8 yX8_wasHandedIn yX8_wasHandedIn, Cond.code yX8_wasHandedIn cX8_wasHandedIn 3 (some .boolean), Cond.fieldLink RX8 18 "PetrolBoard$Pours" "coupon" "[I", Cond.fieldLink RX8 27 "PetrolBoard$Pours" "verdict" "[I", Cond.methodLink RX11 166 yX0_monthOf, Cond.static yX0_monthOf, Cond.code yX0_monthOf cX0_monthOf 1 (some .int), Cond.methodLink RX11 144 yX6_amount, Cond.instanceMethod yX6_amount, Cond.selects RX6 yX6_amount yX6_amount, Cond.initialized RX6, Cond.code yX6_amount cX6_amount 5 (some .int), Cond.methodLink RX6 38 yX6_ordersOf, Cond.instanceMethod yX6_ordersOf]
def wsX11_handIn_r3 : List Cond := [Cond.selects RX6 yX6_ordersOf yX6_ordersOf, Cond.code yX6_ordersOf cX6_ordersOf 4 (some (.object "PetrolBoard$Orders")), Cond.fieldLink RX6 11 "PetrolBoard$OrderBook" "told" "[LPetrolBoard$Orders;", Cond.methodLink RX6 34 yX6_inForce, Cond.instanceMethod yX6_inForce, Cond.selects RX6 yX6_inForce yX6_inForce, Cond.code yX6_inForce cX6_inForce 8 (some .int), Cond.fieldLink RX6 24 "PetrolBoard$OrderBook" "number" "I", Cond.fieldLink RX6 28 "PetrolBoard$Orders" "toldOn" "I", Cond.fieldLink RX6 31 "PetrolBoard$Orders" "month" "I", Cond.static yX11_usual, Cond.code yX11_usual cX11_usual 1 (some .int), Cond.fieldLink RX11 426 "PetrolBoard" "USUAL" "[I", Cond.methodLink RX6 46 yX7_amount, Cond.instanceMethod yX7_amount, Cond.selects RX7 yX7_amount yX7_amount, Cond.initialized RX7, Cond.code yX7_amount cX7_amount 3 (some .int), Cond.fieldLink RX7 44 "PetrolBoard$Orders" "first" "[I", Cond.fieldLink RX7 40 "PetrolBoard$Orders" "head" "[I"]
def wsX11_handIn : List Cond := .code yX11_handIn cX11_handIn 4 (some .int) :: ((wsX11_handIn_r1 ++ (wsX11_handIn_r2 ++ wsX11_handIn_r3)) ++ wsX110 ++ wsX80 ++ wsX00 ++ wsX60 ++ wsX70)
def wsX11_poured : List Cond := .code yX11_poured cX11_poured 3 (some .int) :: ([.fieldLink RX11 44 "PetrolBoard" "pours" "LPetrolBoard$Pours;", .methodLink RX11 220 yX8_tell, .instanceMethod yX8_tell, .selects RX8 yX8_tell yX8_tell, .initialized RX8, .code yX8_tell cX8_tell 3 (some .int), .fieldLink RX8 9 "PetrolBoard$Pours" "station" "[I", .fieldLink RX8 15 "PetrolBoard$Pours" "holder" "[I", .fieldLink RX8 18 "PetrolBoard$Pours" "coupon" "[I", .fieldLink RX8 21 "PetrolBoard$Pours" "day" "[I", .fieldLink RX8 24 "PetrolBoard$Pours" "tenths" "[I", .fieldLink RX8 27 "PetrolBoard$Pours" "verdict" "[I", .fieldLink RX8 30 "PetrolBoard$Pours" "dyed" "[I", .methodLink RX8 40 yX8_has, .instanceMethod yX8_has, .selects RX8 yX8_has yX8_has, .code yX8_has cX8_has 2 (some .boolean), .fieldLink RX8 36 "PetrolBoard$Pours" "number" "I"] ++ wsX110 ++ wsX80)
def wsX11_found_r1 : List Cond := [Cond.fieldLink RX11 16 "PetrolBoard" "holders" "LPetrolBoard$Holders;", Cond.fieldLink RX11 44 "PetrolBoard" "pours" "LPetrolBoard$Pours;", Cond.methodLink RX11 96 yX2_has, Cond.instanceMethod yX2_has, Cond.selects RX2 yX2_has yX2_has, Cond.initialized RX2, Cond.code yX2_has cX2_has 2 (some .boolean), Cond.fieldLink RX2 42 "PetrolBoard$Holders" "number" "I", Cond.methodLink RX11 223 yX8_lastWasDyed, Cond.instanceMethod yX8_lastWasDyed, Cond.selects RX8 yX8_lastWasDyed yX8_lastWasDyed, Cond.initialized RX8, Cond.code yX8_lastWasDyed cX8_lastWasDyed 3 (some .boolean), Cond.fieldLink RX8 36 "PetrolBoard$Pours" "number" "I", Cond.methodLink RX8 44 Lib.Math.min.name, Cond.static Lib.Math.min.name, Cond.initialized "java/lang/Math", Cond.code Lib.Math.min.name Lib.Math.min.code 2 (some .int), Cond.fieldLink RX8 15 "PetrolBoard$Pours" "holder" "[I", Cond.fieldLink RX8 30 "PetrolBoard$Pours" "dyed" "[I", Cond.methodLink RX11 195 yX11_isFarmerNow, Cond.instanceMethod yX11_isFarmerNow, Cond.selects RX11 yX11_isFarmerNow yX11_isFarmerNow, Cond.initialized RX11]
def wsX11_found_r2 : List Cond := [Cond.code yX11_isFarmerNow cX11_isFarmerNow 2 (some .boolean), Cond.fieldLink RX11 85 "PetrolBoard" "today" "I", Cond.methodLink RX11 111 yX2_kindOn, Cond.instanceMethod yX2_kindOn, Cond.selects RX2 yX2_kindOn yX2_kindOn, Cond.code yX2_kindOn cX2_kindOn 8 (some .int), Cond.fieldLink RX2 46 "PetrolBoard$Holders" "notes" "I", Cond.fieldLink RX2 27 "PetrolBoard$Holders" "noteOf" "[I", Cond.fieldLink RX2 33 "PetrolBoard$Holders" "from" "[I", Cond.fieldLink RX2 36 "PetrolBoard$Holders" "toldOn" "[I", Cond.fieldLink RX2 39 "PetrolBoard$Holders" "undoneOn" "[I", Cond.fieldLink RX2 30 "PetrolBoard$Holders" "kind" "[I"]
def wsX11_found : List Cond := .code yX11_found cX11_found 2 (some .int) :: ((wsX11_found_r1 ++ wsX11_found_r2) ++ wsX110 ++ wsX20 ++ wsX80)
def wsX11_deliver : List Cond := .code yX11_deliver cX11_deliver 4 (some .int) :: ([.constant RX11 230 (100000), .methodLink RX11 226 yX11_stationAt, .instanceMethod yX11_stationAt, .selects RX11 yX11_stationAt yX11_stationAt, .initialized RX11, .code yX11_stationAt cX11_stationAt 2 (some (.object "PetrolBoard$Station")), .fieldLink RX11 178 "PetrolBoard" "stationNumber" "I", .fieldLink RX11 50 "PetrolBoard" "stations" "[LPetrolBoard$Station;", .methodLink RX11 88 yX11_within, .static yX11_within, .code yX11_within cX11_within 3 (some .boolean), .methodLink RX11 231 yX10_addDelivery, .instanceMethod yX10_addDelivery, .selects RX10 yX10_addDelivery yX10_addDelivery, .initialized RX10, .code yX10_addDelivery cX10_addDelivery 2 (some .int), .fieldLink RX10 33 "PetrolBoard$Station" "deliveries" "I", .fieldLink RX10 37 "PetrolBoard$Station" "delivered" "I"] ++ wsX110 ++ wsX100)
def wsX11_dip_r1 : List Cond := [Cond.constant RX11 234 (200000), Cond.fieldLink RX11 85 "PetrolBoard" "today" "I", Cond.fieldLink RX11 44 "PetrolBoard" "pours" "LPetrolBoard$Pours;", Cond.fieldLink RX11 201 "PetrolBoard$Pours" "number" "I", Cond.methodLink RX11 226 yX11_stationAt, Cond.instanceMethod yX11_stationAt, Cond.selects RX11 yX11_stationAt yX11_stationAt, Cond.initialized RX11, Cond.code yX11_stationAt cX11_stationAt 2 (some (.object "PetrolBoard$Station")), Cond.fieldLink RX11 178 "PetrolBoard" "stationNumber" "I", Cond.fieldLink RX11 50 "PetrolBoard" "stations" "[LPetrolBoard$Station;", Cond.methodLink RX11 88 yX11_within, Cond.static yX11_within, Cond.code yX11_within cX11_within 3 (some .boolean), Cond.methodLink RX11 235 yX10_addDip, Cond.instanceMethod yX10_addDip, Cond.selects RX10 yX10_addDip yX10_addDip, Cond.initialized RX10, Cond.code yX10_addDip cX10_addDip 4 (some .int), Cond.fieldLink RX10 40 "PetrolBoard$Station" "dips" "I", Cond.fieldLink RX10 9 "PetrolBoard$Station" "told" "[I", Cond.fieldLink RX10 15 "PetrolBoard$Station" "dipDay" "[I", Cond.fieldLink RX10 18 "PetrolBoard$Station" "deliveredThen" "[I", Cond.fieldLink RX10 37 "PetrolBoard$Station" "delivered" "I"]
def wsX11_dip_r2 : List Cond := [Cond.fieldLink RX10 21 "PetrolBoard$Station" "pouredThen" "[I"]
def wsX11_dip : List Cond := .code yX11_dip cX11_dip 4 (some .int) :: ((wsX11_dip_r1 ++ wsX11_dip_r2) ++ wsX110 ++ wsX80 ++ wsX100)
def wsX11_inBehind_r1 : List Cond := [Cond.fieldLink RX11 238 "PetrolBoard$Station" "dips" "I", Cond.fieldLink RX11 30 "PetrolBoard" "orderBook" "LPetrolBoard$OrderBook;", Cond.fieldLink RX11 246 "PetrolBoard$Station" "dipDay" "[I", Cond.fieldLink RX11 85 "PetrolBoard" "today" "I", Cond.fieldLink RX11 44 "PetrolBoard" "pours" "LPetrolBoard$Pours;", Cond.fieldLink RX11 249 "PetrolBoard$Station" "pouredThen" "[I", Cond.fieldLink RX11 255 "PetrolBoard$Station" "deliveredThen" "[I", Cond.methodLink RX11 144 yX6_amount, Cond.instanceMethod yX6_amount, Cond.selects RX6 yX6_amount yX6_amount, Cond.initialized RX6, Cond.code yX6_amount cX6_amount 5 (some .int), Cond.methodLink RX6 38 yX6_ordersOf, Cond.instanceMethod yX6_ordersOf, Cond.selects RX6 yX6_ordersOf yX6_ordersOf, Cond.code yX6_ordersOf cX6_ordersOf 4 (some (.object "PetrolBoard$Orders")), Cond.fieldLink RX6 11 "PetrolBoard$OrderBook" "told" "[LPetrolBoard$Orders;", Cond.methodLink RX6 34 yX6_inForce, Cond.instanceMethod yX6_inForce, Cond.selects RX6 yX6_inForce yX6_inForce, Cond.code yX6_inForce cX6_inForce 8 (some .int), Cond.fieldLink RX6 24 "PetrolBoard$OrderBook" "number" "I", Cond.fieldLink RX6 28 "PetrolBoard$Orders" "toldOn" "I", Cond.fieldLink RX6 31 "PetrolBoard$Orders" "month" "I"]
def wsX11_inBehind_r2 : List Cond := [Cond.static yX11_usual, Cond.initialized RX11, Cond.code yX11_usual cX11_usual 1 (some .int), Cond.fieldLink RX11 426 "PetrolBoard" "USUAL" "[I", Cond.methodLink RX6 46 yX7_amount, Cond.instanceMethod yX7_amount, Cond.selects RX7 yX7_amount yX7_amount, Cond.initialized RX7, Cond.code yX7_amount cX7_amount 3 (some .int), Cond.fieldLink RX7 44 "PetrolBoard$Orders" "first" "[I", Cond.fieldLink RX7 40 "PetrolBoard$Orders" "head" "[I", Cond.methodLink RX11 252 yX8_given, Cond.instanceMethod yX8_given, Cond.selects RX8 yX8_given yX8_given, Cond.initialized RX8, Cond.code yX8_given cX8_given 6 (some .int), Cond.methodLink RX8 50 Lib.Math.max.name, Cond.static Lib.Math.max.name, Cond.initialized "java/lang/Math", Cond.code Lib.Math.max.name Lib.Math.max.code 2 (some .int), Cond.fieldLink RX8 9 "PetrolBoard$Pours" "station" "[I", Cond.fieldLink RX8 27 "PetrolBoard$Pours" "verdict" "[I", Cond.fieldLink RX8 24 "PetrolBoard$Pours" "tenths" "[I", Cond.methodLink RX8 53 yX8_counts]
def wsX11_inBehind_r3 : List Cond := [Cond.static yX8_counts, Cond.code yX8_counts cX8_counts 1 (some .boolean)]
def wsX11_inBehind : List Cond := .code yX11_inBehind cX11_inBehind 6 (some .int) :: ((wsX11_inBehind_r1 ++ (wsX11_inBehind_r2 ++ wsX11_inBehind_r3)) ++ wsX100 ++ wsX110 ++ wsX60 ++ wsX70 ++ wsX80)
def wsX11_in_r1 : List Cond := [Cond.fieldLink RX11 238 "PetrolBoard$Station" "dips" "I", Cond.constant RX11 241 (-2000000000), Cond.methodLink RX11 226 yX11_stationAt, Cond.instanceMethod yX11_stationAt, Cond.selects RX11 yX11_stationAt yX11_stationAt, Cond.initialized RX11, Cond.code yX11_stationAt cX11_stationAt 2 (some (.object "PetrolBoard$Station")), Cond.fieldLink RX11 178 "PetrolBoard" "stationNumber" "I", Cond.fieldLink RX11 50 "PetrolBoard" "stations" "[LPetrolBoard$Station;", Cond.methodLink RX11 242 yX11_inBehind, Cond.instanceMethod yX11_inBehind, Cond.selects RX11 yX11_inBehind yX11_inBehind, Cond.code yX11_inBehind cX11_inBehind 6 (some .int), Cond.fieldLink RX11 30 "PetrolBoard" "orderBook" "LPetrolBoard$OrderBook;", Cond.fieldLink RX11 246 "PetrolBoard$Station" "dipDay" "[I", Cond.fieldLink RX11 85 "PetrolBoard" "today" "I", Cond.fieldLink RX11 44 "PetrolBoard" "pours" "LPetrolBoard$Pours;", Cond.fieldLink RX11 249 "PetrolBoard$Station" "pouredThen" "[I", Cond.fieldLink RX11 255 "PetrolBoard$Station" "deliveredThen" "[I", Cond.methodLink RX11 144 yX6_amount, Cond.instanceMethod yX6_amount, Cond.selects RX6 yX6_amount yX6_amount, Cond.initialized RX6, Cond.code yX6_amount cX6_amount 5 (some .int)]
def wsX11_in_r2 : List Cond := [Cond.methodLink RX6 38 yX6_ordersOf, Cond.instanceMethod yX6_ordersOf, Cond.selects RX6 yX6_ordersOf yX6_ordersOf, Cond.code yX6_ordersOf cX6_ordersOf 4 (some (.object "PetrolBoard$Orders")), Cond.fieldLink RX6 11 "PetrolBoard$OrderBook" "told" "[LPetrolBoard$Orders;", Cond.methodLink RX6 34 yX6_inForce, Cond.instanceMethod yX6_inForce, Cond.selects RX6 yX6_inForce yX6_inForce, Cond.code yX6_inForce cX6_inForce 8 (some .int), Cond.fieldLink RX6 24 "PetrolBoard$OrderBook" "number" "I", Cond.fieldLink RX6 28 "PetrolBoard$Orders" "toldOn" "I", Cond.fieldLink RX6 31 "PetrolBoard$Orders" "month" "I", Cond.static yX11_usual, Cond.code yX11_usual cX11_usual 1 (some .int), Cond.fieldLink RX11 426 "PetrolBoard" "USUAL" "[I", Cond.methodLink RX6 46 yX7_amount, Cond.instanceMethod yX7_amount, Cond.selects RX7 yX7_amount yX7_amount, Cond.initialized RX7, Cond.code yX7_amount cX7_amount 3 (some .int), Cond.fieldLink RX7 44 "PetrolBoard$Orders" "first" "[I", Cond.fieldLink RX7 40 "PetrolBoard$Orders" "head" "[I", Cond.methodLink RX11 252 yX8_given, Cond.instanceMethod yX8_given]
def wsX11_in_r3 : List Cond := [Cond.selects RX8 yX8_given yX8_given, Cond.initialized RX8, Cond.code yX8_given cX8_given 6 (some .int), Cond.methodLink RX8 50 Lib.Math.max.name, Cond.static Lib.Math.max.name, Cond.initialized "java/lang/Math", Cond.code Lib.Math.max.name Lib.Math.max.code 2 (some .int), Cond.fieldLink RX8 9 "PetrolBoard$Pours" "station" "[I", Cond.fieldLink RX8 27 "PetrolBoard$Pours" "verdict" "[I", Cond.fieldLink RX8 24 "PetrolBoard$Pours" "tenths" "[I", Cond.methodLink RX8 53 yX8_counts, Cond.static yX8_counts, Cond.code yX8_counts cX8_counts 1 (some .boolean)]
def wsX11_in : List Cond := .code yX11_in cX11_in 4 (some .int) :: ((wsX11_in_r1 ++ (wsX11_in_r2 ++ wsX11_in_r3)) ++ wsX100 ++ wsX110 ++ wsX60 ++ wsX70 ++ wsX80)
def wsX11_putBounds_r1 : List Cond := [Cond.methodLink RX11 274 Lib.Math.max.name, Cond.static Lib.Math.max.name, Cond.initialized "java/lang/Math", Cond.code Lib.Math.max.name Lib.Math.max.code 2 (some .int), Cond.fieldLink RX11 30 "PetrolBoard" "orderBook" "LPetrolBoard$OrderBook;", Cond.fieldLink RX11 246 "PetrolBoard$Station" "dipDay" "[I", Cond.fieldLink RX11 85 "PetrolBoard" "today" "I", Cond.fieldLink RX11 279 "PetrolBoard$Station" "low" "[I", Cond.fieldLink RX11 282 "PetrolBoard$Station" "told" "[I", Cond.fieldLink RX11 285 "PetrolBoard$Station" "high" "[I", Cond.fieldLink RX11 288 "PetrolBoard$Station" "in" "[I", Cond.methodLink RX11 144 yX6_amount, Cond.instanceMethod yX6_amount, Cond.selects RX6 yX6_amount yX6_amount, Cond.initialized RX6, Cond.code yX6_amount cX6_amount 5 (some .int), Cond.methodLink RX6 38 yX6_ordersOf, Cond.instanceMethod yX6_ordersOf, Cond.selects RX6 yX6_ordersOf yX6_ordersOf, Cond.code yX6_ordersOf cX6_ordersOf 4 (some (.object "PetrolBoard$Orders")), Cond.fieldLink RX6 11 "PetrolBoard$OrderBook" "told" "[LPetrolBoard$Orders;", Cond.methodLink RX6 34 yX6_inForce, Cond.instanceMethod yX6_inForce, Cond.selects RX6 yX6_inForce yX6_inForce]
def wsX11_putBounds_r2 : List Cond := [Cond.code yX6_inForce cX6_inForce 8 (some .int), Cond.fieldLink RX6 24 "PetrolBoard$OrderBook" "number" "I", Cond.fieldLink RX6 28 "PetrolBoard$Orders" "toldOn" "I", Cond.fieldLink RX6 31 "PetrolBoard$Orders" "month" "I", Cond.static yX11_usual, Cond.initialized RX11, Cond.code yX11_usual cX11_usual 1 (some .int), Cond.fieldLink RX11 426 "PetrolBoard" "USUAL" "[I", Cond.methodLink RX6 46 yX7_amount, Cond.instanceMethod yX7_amount, Cond.selects RX7 yX7_amount yX7_amount, Cond.initialized RX7, Cond.code yX7_amount cX7_amount 3 (some .int), Cond.fieldLink RX7 44 "PetrolBoard$Orders" "first" "[I", Cond.fieldLink RX7 40 "PetrolBoard$Orders" "head" "[I", Cond.methodLink RX11 242 yX11_inBehind, Cond.instanceMethod yX11_inBehind, Cond.selects RX11 yX11_inBehind yX11_inBehind, Cond.code yX11_inBehind cX11_inBehind 6 (some .int), Cond.fieldLink RX11 238 "PetrolBoard$Station" "dips" "I", Cond.fieldLink RX11 44 "PetrolBoard" "pours" "LPetrolBoard$Pours;", Cond.fieldLink RX11 249 "PetrolBoard$Station" "pouredThen" "[I", Cond.fieldLink RX11 255 "PetrolBoard$Station" "deliveredThen" "[I", Cond.methodLink RX11 252 yX8_given]
def wsX11_putBounds_r3 : List Cond := [Cond.instanceMethod yX8_given, Cond.selects RX8 yX8_given yX8_given, Cond.initialized RX8, Cond.code yX8_given cX8_given 6 (some .int), Cond.methodLink RX8 50 Lib.Math.max.name, Cond.fieldLink RX8 9 "PetrolBoard$Pours" "station" "[I", Cond.fieldLink RX8 27 "PetrolBoard$Pours" "verdict" "[I", Cond.fieldLink RX8 24 "PetrolBoard$Pours" "tenths" "[I", Cond.methodLink RX8 53 yX8_counts, Cond.static yX8_counts, Cond.code yX8_counts cX8_counts 1 (some .boolean)]
def wsX11_putBounds : List Cond := .code yX11_putBounds cX11_putBounds 7 none :: ((wsX11_putBounds_r1 ++ (wsX11_putBounds_r2 ++ wsX11_putBounds_r3)) ++ wsX110 ++ wsX100 ++ wsX60 ++ wsX70 ++ wsX80)
def wsX11_sums_r1 : List Cond := [Cond.constantLong RX11 261 (-1), Cond.methodLink RX11 226 yX11_stationAt, Cond.instanceMethod yX11_stationAt, Cond.selects RX11 yX11_stationAt yX11_stationAt, Cond.initialized RX11, Cond.code yX11_stationAt cX11_stationAt 2 (some (.object "PetrolBoard$Station")), Cond.fieldLink RX11 178 "PetrolBoard" "stationNumber" "I", Cond.fieldLink RX11 50 "PetrolBoard" "stations" "[LPetrolBoard$Station;", Cond.methodLink RX11 258 yX10_hasSpan, Cond.instanceMethod yX10_hasSpan, Cond.selects RX10 yX10_hasSpan yX10_hasSpan, Cond.initialized RX10, Cond.code yX10_hasSpan cX10_hasSpan 3 (some .boolean), Cond.fieldLink RX10 40 "PetrolBoard$Station" "dips" "I", Cond.methodLink RX11 88 yX11_within, Cond.static yX11_within, Cond.code yX11_within cX11_within 3 (some .boolean), Cond.methodLink RX11 263 yX11_putBounds, Cond.instanceMethod yX11_putBounds, Cond.selects RX11 yX11_putBounds yX11_putBounds, Cond.code yX11_putBounds cX11_putBounds 7 none, Cond.methodLink RX11 274 Lib.Math.max.name, Cond.static Lib.Math.max.name, Cond.initialized "java/lang/Math"]
def wsX11_sums_r2 : List Cond := [Cond.code Lib.Math.max.name Lib.Math.max.code 2 (some .int), Cond.fieldLink RX11 30 "PetrolBoard" "orderBook" "LPetrolBoard$OrderBook;", Cond.fieldLink RX11 246 "PetrolBoard$Station" "dipDay" "[I", Cond.fieldLink RX11 85 "PetrolBoard" "today" "I", Cond.fieldLink RX11 279 "PetrolBoard$Station" "low" "[I", Cond.fieldLink RX11 282 "PetrolBoard$Station" "told" "[I", Cond.fieldLink RX11 285 "PetrolBoard$Station" "high" "[I", Cond.fieldLink RX11 288 "PetrolBoard$Station" "in" "[I", Cond.methodLink RX11 144 yX6_amount, Cond.instanceMethod yX6_amount, Cond.selects RX6 yX6_amount yX6_amount, Cond.initialized RX6, Cond.code yX6_amount cX6_amount 5 (some .int), Cond.methodLink RX6 38 yX6_ordersOf, Cond.instanceMethod yX6_ordersOf, Cond.selects RX6 yX6_ordersOf yX6_ordersOf, Cond.code yX6_ordersOf cX6_ordersOf 4 (some (.object "PetrolBoard$Orders")), Cond.fieldLink RX6 11 "PetrolBoard$OrderBook" "told" "[LPetrolBoard$Orders;", Cond.methodLink RX6 34 yX6_inForce, Cond.instanceMethod yX6_inForce, Cond.selects RX6 yX6_inForce yX6_inForce, Cond.code yX6_inForce cX6_inForce 8 (some .int), Cond.fieldLink RX6 24 "PetrolBoard$OrderBook" "number" "I", Cond.fieldLink RX6 28 "PetrolBoard$Orders" "toldOn" "I"]
def wsX11_sums_r3 : List Cond := [Cond.fieldLink RX6 31 "PetrolBoard$Orders" "month" "I", Cond.static yX11_usual, Cond.code yX11_usual cX11_usual 1 (some .int), Cond.fieldLink RX11 426 "PetrolBoard" "USUAL" "[I", Cond.methodLink RX6 46 yX7_amount, Cond.instanceMethod yX7_amount, Cond.selects RX7 yX7_amount yX7_amount, Cond.initialized RX7, Cond.code yX7_amount cX7_amount 3 (some .int), Cond.fieldLink RX7 44 "PetrolBoard$Orders" "first" "[I", Cond.fieldLink RX7 40 "PetrolBoard$Orders" "head" "[I", Cond.methodLink RX11 242 yX11_inBehind, Cond.instanceMethod yX11_inBehind, Cond.selects RX11 yX11_inBehind yX11_inBehind, Cond.code yX11_inBehind cX11_inBehind 6 (some .int), Cond.fieldLink RX11 238 "PetrolBoard$Station" "dips" "I", Cond.fieldLink RX11 44 "PetrolBoard" "pours" "LPetrolBoard$Pours;", Cond.fieldLink RX11 249 "PetrolBoard$Station" "pouredThen" "[I", Cond.fieldLink RX11 255 "PetrolBoard$Station" "deliveredThen" "[I", Cond.methodLink RX11 252 yX8_given, Cond.instanceMethod yX8_given, Cond.selects RX8 yX8_given yX8_given, Cond.initialized RX8, Cond.code yX8_given cX8_given 6 (some .int)]
def wsX11_sums_r4 : List Cond := [Cond.methodLink RX8 50 Lib.Math.max.name, Cond.fieldLink RX8 9 "PetrolBoard$Pours" "station" "[I", Cond.fieldLink RX8 27 "PetrolBoard$Pours" "verdict" "[I", Cond.fieldLink RX8 24 "PetrolBoard$Pours" "tenths" "[I", Cond.methodLink RX8 53 yX8_counts, Cond.static yX8_counts, Cond.code yX8_counts cX8_counts 1 (some .boolean), Cond.methodLink RX11 267 yX10_leastBlack, Cond.instanceMethod yX10_leastBlack, Cond.selects RX10 yX10_leastBlack yX10_leastBlack, Cond.code yX10_leastBlack cX10_leastBlack 8 (some .long), Cond.constantLong RX10 53 (-1), Cond.constantLong RX10 62 (-3), Cond.fieldLink RX10 27 "PetrolBoard$Station" "high" "[I", Cond.fieldLink RX10 30 "PetrolBoard$Station" "in" "[I", Cond.methodLink RX10 67 Lib.MathLoose.min_long.x, Cond.static Lib.MathLoose.min_long.x, Cond.code Lib.MathLoose.min_long.x Lib.MathLoose.min_long.code 4 (some .long), Cond.methodLink RX10 43 yX10_hasSpan, Cond.methodLink RX10 58 yX10_lowestFirst, Cond.instanceMethod yX10_lowestFirst, Cond.selects RX10 yX10_lowestFirst yX10_lowestFirst, Cond.code yX10_lowestFirst cX10_lowestFirst 6 (some .long), Cond.fieldLink RX10 24 "PetrolBoard$Station" "low" "[I"]
def wsX11_sums_r5 : List Cond := [Cond.methodLink RX10 47 Lib.MathLoose.max_long.x, Cond.static Lib.MathLoose.max_long.x, Cond.code Lib.MathLoose.max_long.x Lib.MathLoose.max_long.code 4 (some .long), Cond.methodLink RX10 64 yX10_inTogether, Cond.instanceMethod yX10_inTogether, Cond.selects RX10 yX10_inTogether yX10_inTogether, Cond.code yX10_inTogether cX10_inTogether 6 (some .long), Cond.methodLink RX10 55 Lib.Math.max.name, Cond.methodLink RX11 271 yX10_mostBlack, Cond.instanceMethod yX10_mostBlack, Cond.selects RX10 yX10_mostBlack yX10_mostBlack, Cond.code yX10_mostBlack cX10_mostBlack 3 (some .long)]
def wsX11_sums : List Cond := .code yX11_sums cX11_sums 6 (some .long) :: ((wsX11_sums_r1 ++ (wsX11_sums_r2 ++ (wsX11_sums_r3 ++ (wsX11_sums_r4 ++ wsX11_sums_r5)))) ++ wsX110 ++ wsX100 ++ wsX60 ++ wsX70 ++ wsX80)
def wsX11_level : List Cond := .code yX11_level cX11_level 3 (some .boolean) :: ([.fieldLink RX11 54 "PetrolBoard" "row" "[I", .constant RX11 291 (300000), .methodLink RX11 88 yX11_within, .static yX11_within, .initialized RX11, .code yX11_within cX11_within 3 (some .boolean)] ++ wsX110)
def wsX11_judged_r1 : List Cond := [Cond.constantLong RX11 261 (-1), Cond.fieldLink RX11 54 "PetrolBoard" "row" "[I", Cond.methodLink RX11 226 yX11_stationAt, Cond.instanceMethod yX11_stationAt, Cond.selects RX11 yX11_stationAt yX11_stationAt, Cond.initialized RX11, Cond.code yX11_stationAt cX11_stationAt 2 (some (.object "PetrolBoard$Station")), Cond.fieldLink RX11 178 "PetrolBoard" "stationNumber" "I", Cond.fieldLink RX11 50 "PetrolBoard" "stations" "[LPetrolBoard$Station;", Cond.methodLink RX11 258 yX10_hasSpan, Cond.instanceMethod yX10_hasSpan, Cond.selects RX10 yX10_hasSpan yX10_hasSpan, Cond.initialized RX10, Cond.code yX10_hasSpan cX10_hasSpan 3 (some .boolean), Cond.fieldLink RX10 40 "PetrolBoard$Station" "dips" "I", Cond.methodLink RX11 263 yX11_putBounds, Cond.instanceMethod yX11_putBounds, Cond.selects RX11 yX11_putBounds yX11_putBounds, Cond.code yX11_putBounds cX11_putBounds 7 none, Cond.methodLink RX11 274 Lib.Math.max.name, Cond.static Lib.Math.max.name, Cond.initialized "java/lang/Math", Cond.code Lib.Math.max.name Lib.Math.max.code 2 (some .int), Cond.fieldLink RX11 30 "PetrolBoard" "orderBook" "LPetrolBoard$OrderBook;"]
def wsX11_judged_r2 : List Cond := [Cond.fieldLink RX11 246 "PetrolBoard$Station" "dipDay" "[I", Cond.fieldLink RX11 85 "PetrolBoard" "today" "I", Cond.fieldLink RX11 279 "PetrolBoard$Station" "low" "[I", Cond.fieldLink RX11 282 "PetrolBoard$Station" "told" "[I", Cond.fieldLink RX11 285 "PetrolBoard$Station" "high" "[I", Cond.fieldLink RX11 288 "PetrolBoard$Station" "in" "[I", Cond.methodLink RX11 144 yX6_amount, Cond.instanceMethod yX6_amount, Cond.selects RX6 yX6_amount yX6_amount, Cond.initialized RX6, Cond.code yX6_amount cX6_amount 5 (some .int), Cond.methodLink RX6 38 yX6_ordersOf, Cond.instanceMethod yX6_ordersOf, Cond.selects RX6 yX6_ordersOf yX6_ordersOf, Cond.code yX6_ordersOf cX6_ordersOf 4 (some (.object "PetrolBoard$Orders")), Cond.fieldLink RX6 11 "PetrolBoard$OrderBook" "told" "[LPetrolBoard$Orders;", Cond.methodLink RX6 34 yX6_inForce, Cond.instanceMethod yX6_inForce, Cond.selects RX6 yX6_inForce yX6_inForce, Cond.code yX6_inForce cX6_inForce 8 (some .int), Cond.fieldLink RX6 24 "PetrolBoard$OrderBook" "number" "I", Cond.fieldLink RX6 28 "PetrolBoard$Orders" "toldOn" "I", Cond.fieldLink RX6 31 "PetrolBoard$Orders" "month" "I", Cond.static yX11_usual]
def wsX11_judged_r3 : List Cond := [Cond.code yX11_usual cX11_usual 1 (some .int), Cond.fieldLink RX11 426 "PetrolBoard" "USUAL" "[I", Cond.methodLink RX6 46 yX7_amount, Cond.instanceMethod yX7_amount, Cond.selects RX7 yX7_amount yX7_amount, Cond.initialized RX7, Cond.code yX7_amount cX7_amount 3 (some .int), Cond.fieldLink RX7 44 "PetrolBoard$Orders" "first" "[I", Cond.fieldLink RX7 40 "PetrolBoard$Orders" "head" "[I", Cond.methodLink RX11 242 yX11_inBehind, Cond.instanceMethod yX11_inBehind, Cond.selects RX11 yX11_inBehind yX11_inBehind, Cond.code yX11_inBehind cX11_inBehind 6 (some .int), Cond.fieldLink RX11 238 "PetrolBoard$Station" "dips" "I", Cond.fieldLink RX11 44 "PetrolBoard" "pours" "LPetrolBoard$Pours;", Cond.fieldLink RX11 249 "PetrolBoard$Station" "pouredThen" "[I", Cond.fieldLink RX11 255 "PetrolBoard$Station" "deliveredThen" "[I", Cond.methodLink RX11 252 yX8_given, Cond.instanceMethod yX8_given, Cond.selects RX8 yX8_given yX8_given, Cond.initialized RX8, Cond.code yX8_given cX8_given 6 (some .int), Cond.methodLink RX8 50 Lib.Math.max.name, Cond.fieldLink RX8 9 "PetrolBoard$Pours" "station" "[I"]
def wsX11_judged_r4 : List Cond := [Cond.fieldLink RX8 27 "PetrolBoard$Pours" "verdict" "[I", Cond.fieldLink RX8 24 "PetrolBoard$Pours" "tenths" "[I", Cond.methodLink RX8 53 yX8_counts, Cond.static yX8_counts, Cond.code yX8_counts cX8_counts 1 (some .boolean), Cond.methodLink RX11 292 yX10_blackBy, Cond.instanceMethod yX10_blackBy, Cond.selects RX10 yX10_blackBy yX10_blackBy, Cond.code yX10_blackBy cX10_blackBy 6 (some .long), Cond.constantLong RX10 53 (-1), Cond.fieldLink RX10 24 "PetrolBoard$Station" "low" "[I", Cond.fieldLink RX10 27 "PetrolBoard$Station" "high" "[I", Cond.fieldLink RX10 30 "PetrolBoard$Station" "in" "[I", Cond.methodLink RX10 43 yX10_hasSpan, Cond.methodLink RX10 64 yX10_inTogether, Cond.instanceMethod yX10_inTogether, Cond.selects RX10 yX10_inTogether yX10_inTogether, Cond.code yX10_inTogether cX10_inTogether 6 (some .long), Cond.methodLink RX10 55 Lib.Math.max.name]
def wsX11_judged : List Cond := .code yX11_judged cX11_judged 5 (some .long) :: ((wsX11_judged_r1 ++ (wsX11_judged_r2 ++ (wsX11_judged_r3 ++ wsX11_judged_r4))) ++ wsX110 ++ wsX100 ++ wsX60 ++ wsX70 ++ wsX80)
def wsX11_port : List Cond := .code yX11_port cX11_port 2 (some .int) :: ([.fieldLink RX11 61 "PetrolBoard" "loads" "LPetrolBoard$Loads;", .methodLink RX11 88 yX11_within, .static yX11_within, .initialized RX11, .code yX11_within cX11_within 3 (some .boolean), .methodLink RX11 296 yX4_addPort, .instanceMethod yX4_addPort, .selects RX4 yX4_addPort yX4_addPort, .initialized RX4, .code yX4_addPort cX4_addPort 2 (some .int), .fieldLink RX4 44 "PetrolBoard$Loads" "ports" "I", .fieldLink RX4 9 "PetrolBoard$Loads" "inPort" "[I"] ++ wsX110 ++ wsX40)
def wsX11_want : List Cond := .code yX11_want cX11_want 3 (some .boolean) :: ([.fieldLink RX11 61 "PetrolBoard" "loads" "LPetrolBoard$Loads;", .methodLink RX11 182 yX11_hasStation, .instanceMethod yX11_hasStation, .selects RX11 yX11_hasStation yX11_hasStation, .initialized RX11, .code yX11_hasStation cX11_hasStation 2 (some .boolean), .fieldLink RX11 178 "PetrolBoard" "stationNumber" "I", .methodLink RX11 88 yX11_within, .static yX11_within, .code yX11_within cX11_within 3 (some .boolean), .methodLink RX11 299 yX4_putWant, .instanceMethod yX4_putWant, .selects RX4 yX4_putWant yX4_putWant, .initialized RX4, .code yX4_putWant cX4_putWant 3 none, .fieldLink RX4 15 "PetrolBoard$Loads" "wanted" "[I"] ++ wsX110 ++ wsX40)
def wsX11_road : List Cond := .code yX11_road cX11_road 4 (some .boolean) :: ([.fieldLink RX11 61 "PetrolBoard" "loads" "LPetrolBoard$Loads;", .methodLink RX11 303 yX4_hasPort, .instanceMethod yX4_hasPort, .selects RX4 yX4_hasPort yX4_hasPort, .initialized RX4, .code yX4_hasPort cX4_hasPort 2 (some .boolean), .fieldLink RX4 44 "PetrolBoard$Loads" "ports" "I", .methodLink RX11 182 yX11_hasStation, .instanceMethod yX11_hasStation, .selects RX11 yX11_hasStation yX11_hasStation, .initialized RX11, .code yX11_hasStation cX11_hasStation 2 (some .boolean), .fieldLink RX11 178 "PetrolBoard" "stationNumber" "I", .methodLink RX11 88 yX11_within, .static yX11_within, .code yX11_within cX11_within 3 (some .boolean), .methodLink RX11 306 yX4_putRoad, .instanceMethod yX4_putRoad, .selects RX4 yX4_putRoad yX4_putRoad, .code yX4_putRoad cX4_putRoad 4 none, .fieldLink RX4 20 "PetrolBoard$Loads" "miles" "[[I", .methodLink RX4 48 yX4_hasPort] ++ wsX110 ++ wsX40)
def wsX11_flow_r1 : List Cond := [Cond.fieldLink RX11 61 "PetrolBoard" "loads" "LPetrolBoard$Loads;", Cond.fieldLink RX11 313 "PetrolBoard$Loads" "sentLoads" "I", Cond.fieldLink RX11 316 "PetrolBoard$Loads" "sentMiles" "I", Cond.methodLink RX11 88 yX11_within, Cond.static yX11_within, Cond.initialized RX11, Cond.code yX11_within cX11_within 3 (some .boolean), Cond.methodLink RX11 303 yX4_hasPort, Cond.instanceMethod yX4_hasPort, Cond.selects RX4 yX4_hasPort yX4_hasPort, Cond.initialized RX4, Cond.code yX4_hasPort cX4_hasPort 2 (some .boolean), Cond.fieldLink RX4 44 "PetrolBoard$Loads" "ports" "I", Cond.methodLink RX11 310 yX4_send, Cond.instanceMethod yX4_send, Cond.selects RX4 yX4_send yX4_send, Cond.code yX4_send cX4_send 4 none, Cond.fieldLink RX4 52 "PetrolBoard$Loads" "sentLoads" "I", Cond.fieldLink RX4 55 "PetrolBoard$Loads" "sentMiles" "I", Cond.fieldLink RX4 26 "PetrolBoard$Loads" "left" "[I", Cond.fieldLink RX4 9 "PetrolBoard$Loads" "inPort" "[I", Cond.fieldLink RX4 23 "PetrolBoard$Loads" "sent" "[[I", Cond.fieldLink RX4 29 "PetrolBoard$Loads" "lacking" "[I", Cond.fieldLink RX4 15 "PetrolBoard$Loads" "wanted" "[I"]
def wsX11_flow_r2 : List Cond := [Cond.methodLink RX4 58 yJ7_fill_53178, Cond.static yJ7_fill_53178, Cond.initialized RJ7, Cond.code yJ7_fill_53178 cJ7_fill_53178 4 none, Cond.methodLink RX4 64 yX4_cheapestEnd, Cond.instanceMethod yX4_cheapestEnd, Cond.selects RX4 yX4_cheapestEnd yX4_cheapestEnd, Cond.code yX4_cheapestEnd cX4_cheapestEnd 5 (some .int), Cond.fieldLink RX4 32 "PetrolBoard$Loads" "toPort" "[I", Cond.constant RX4 72 (1000000), Cond.fieldLink RX4 41 "PetrolBoard$Loads" "byStation" "[I", Cond.fieldLink RX4 35 "PetrolBoard$Loads" "toStation" "[I", Cond.fieldLink RX4 38 "PetrolBoard$Loads" "byPort" "[I", Cond.methodLink RX4 73 yX4_shorten, Cond.instanceMethod yX4_shorten, Cond.selects RX4 yX4_shorten yX4_shorten, Cond.code yX4_shorten cX4_shorten 5 (some .boolean), Cond.fieldLink RX4 20 "PetrolBoard$Loads" "miles" "[[I", Cond.methodLink RX4 68 yX4_sendTo, Cond.instanceMethod yX4_sendTo, Cond.selects RX4 yX4_sendTo yX4_sendTo, Cond.code yX4_sendTo cX4_sendTo 6 none, Cond.methodLink RX4 77 yX4_loadTo, Cond.instanceMethod yX4_loadTo]
def wsX11_flow_r3 : List Cond := [Cond.selects RX4 yX4_loadTo yX4_loadTo, Cond.code yX4_loadTo cX4_loadTo 6 (some .int), Cond.methodLink RX4 87 Lib.Math.min.name, Cond.static Lib.Math.min.name, Cond.initialized "java/lang/Math", Cond.code Lib.Math.min.name Lib.Math.min.code 2 (some .int), Cond.methodLink RX4 81 yX4_isStation, Cond.static yX4_isStation, Cond.code yX4_isStation cX4_isStation 1 (some .boolean), Cond.methodLink RX4 84 yX4_isPort, Cond.static yX4_isPort, Cond.code yX4_isPort cX4_isPort 1 (some .boolean)]
def wsX11_flow : List Cond := .code yX11_flow cX11_flow 3 (some .int) :: ((wsX11_flow_r1 ++ (wsX11_flow_r2 ++ wsX11_flow_r3)) ++ wsX110 ++ wsX40)
def wsX11_isReason : List Cond := .code yX11_isReason cX11_isReason 1 (some .boolean) :: ([.methodLink RX11 88 yX11_within, .static yX11_within, .initialized RX11, .code yX11_within cX11_within 3 (some .boolean)])
def wsX11_isWay : List Cond := .code yX11_isWay cX11_isWay 1 (some .boolean) :: ([.methodLink RX11 88 yX11_within, .static yX11_within, .initialized RX11, .code yX11_within cX11_within 3 (some .boolean)])
def wsX11_ask_r1 : List Cond := [Cond.fieldLink RX11 16 "PetrolBoard" "holders" "LPetrolBoard$Holders;", Cond.fieldLink RX11 85 "PetrolBoard" "today" "I", Cond.fieldLink RX11 68 "PetrolBoard" "journeys" "LPetrolBoard$Journeys;", Cond.fieldLink RX11 329 "PetrolBoard$Journeys" "asked" "[I", Cond.fieldLink RX11 332 "PetrolBoard$Journeys" "granted" "[I", Cond.fieldLink RX11 30 "PetrolBoard" "orderBook" "LPetrolBoard$OrderBook;", Cond.fieldLink RX11 339 "PetrolBoard$Journeys" "grantedFirst" "[I", Cond.methodLink RX11 96 yX2_has, Cond.instanceMethod yX2_has, Cond.selects RX2 yX2_has yX2_has, Cond.initialized RX2, Cond.code yX2_has cX2_has 2 (some .boolean), Cond.fieldLink RX2 42 "PetrolBoard$Holders" "number" "I", Cond.methodLink RX11 88 yX11_within, Cond.static yX11_within, Cond.initialized RX11, Cond.code yX11_within cX11_within 3 (some .boolean), Cond.methodLink RX11 319 yX11_isReason, Cond.static yX11_isReason, Cond.code yX11_isReason cX11_isReason 1 (some .boolean), Cond.methodLink RX11 322 yX11_isWay, Cond.static yX11_isWay, Cond.code yX11_isWay cX11_isWay 1 (some .boolean), Cond.methodLink RX11 325 yX3_add]
def wsX11_ask_r2 : List Cond := [Cond.instanceMethod yX3_add, Cond.selects RX3 yX3_add yX3_add, Cond.initialized RX3, Cond.code yX3_add cX3_add 7 (some .int), Cond.fieldLink RX3 45 "PetrolBoard$Journeys" "number" "I", Cond.fieldLink RX3 9 "PetrolBoard$Journeys" "holder" "[I", Cond.fieldLink RX3 15 "PetrolBoard$Journeys" "miles" "[I", Cond.fieldLink RX3 18 "PetrolBoard$Journeys" "people" "[I", Cond.fieldLink RX3 21 "PetrolBoard$Journeys" "reason" "[I", Cond.fieldLink RX3 24 "PetrolBoard$Journeys" "day" "[I", Cond.fieldLink RX3 27 "PetrolBoard$Journeys" "way" "[I", Cond.methodLink RX11 328 yX3_has, Cond.instanceMethod yX3_has, Cond.selects RX3 yX3_has yX3_has, Cond.code yX3_has cX3_has 2 (some .boolean), Cond.methodLink RX11 335 yX6_grant, Cond.instanceMethod yX6_grant, Cond.selects RX6 yX6_grant yX6_grant, Cond.initialized RX6, Cond.code yX6_grant cX6_grant 6 (some .int), Cond.fieldLink RX6 74 "PetrolBoard$Journeys" "asked" "[I", Cond.fieldLink RX6 78 "PetrolBoard$Journeys" "day" "[I", Cond.fieldLink RX6 81 "PetrolBoard$Journeys" "holder" "[I", Cond.fieldLink RX6 84 "PetrolBoard$Journeys" "miles" "[I"]
def wsX11_ask_r3 : List Cond := [Cond.fieldLink RX6 87 "PetrolBoard$Journeys" "people" "[I", Cond.fieldLink RX6 90 "PetrolBoard$Journeys" "reason" "[I", Cond.fieldLink RX6 20 "PetrolBoard$OrderBook" "machine" "LPetrolBoard$Machine;", Cond.methodLink RX6 71 yX3_has, Cond.methodLink RX6 38 yX6_ordersOf, Cond.instanceMethod yX6_ordersOf, Cond.selects RX6 yX6_ordersOf yX6_ordersOf, Cond.code yX6_ordersOf cX6_ordersOf 4 (some (.object "PetrolBoard$Orders")), Cond.fieldLink RX6 11 "PetrolBoard$OrderBook" "told" "[LPetrolBoard$Orders;", Cond.methodLink RX6 34 yX6_inForce, Cond.instanceMethod yX6_inForce, Cond.selects RX6 yX6_inForce yX6_inForce, Cond.code yX6_inForce cX6_inForce 8 (some .int), Cond.fieldLink RX6 24 "PetrolBoard$OrderBook" "number" "I", Cond.fieldLink RX6 28 "PetrolBoard$Orders" "toldOn" "I", Cond.fieldLink RX6 31 "PetrolBoard$Orders" "month" "I", Cond.methodLink RX6 49 yX2_has, Cond.methodLink RX6 55 yX6_putHolder, Cond.instanceMethod yX6_putHolder, Cond.selects RX6 yX6_putHolder yX6_putHolder, Cond.code yX6_putHolder cX6_putHolder 5 none, Cond.fieldLink RX6 93 "PetrolBoard$Machine" "names" "[I", Cond.fieldLink RX6 100 "PetrolBoard$Holders" "size" "[I", Cond.fieldLink RX6 103 "PetrolBoard$Holders" "town" "[I"]
def wsX11_ask_r4 : List Cond := [Cond.methodLink RX6 96 yX2_kindOn, Cond.instanceMethod yX2_kindOn, Cond.selects RX2 yX2_kindOn yX2_kindOn, Cond.code yX2_kindOn cX2_kindOn 8 (some .int), Cond.fieldLink RX2 46 "PetrolBoard$Holders" "notes" "I", Cond.fieldLink RX2 27 "PetrolBoard$Holders" "noteOf" "[I", Cond.fieldLink RX2 33 "PetrolBoard$Holders" "from" "[I", Cond.fieldLink RX2 36 "PetrolBoard$Holders" "toldOn" "[I", Cond.fieldLink RX2 39 "PetrolBoard$Holders" "undoneOn" "[I", Cond.fieldLink RX2 30 "PetrolBoard$Holders" "kind" "[I", Cond.methodLink RX6 59 yX6_putJourney, Cond.instanceMethod yX6_putJourney, Cond.selects RX6 yX6_putJourney yX6_putJourney, Cond.code yX6_putJourney cX6_putJourney 4 none, Cond.methodLink RX6 67 yX7_dealt, Cond.instanceMethod yX7_dealt, Cond.selects RX7 yX7_dealt yX7_dealt, Cond.initialized RX7, Cond.code yX7_dealt cX7_dealt 5 (some .int), Cond.fieldLink RX7 40 "PetrolBoard$Orders" "head" "[I", Cond.fieldLink RX7 44 "PetrolBoard$Orders" "first" "[I", Cond.fieldLink RX7 52 "PetrolBoard$Orders" "code" "[I", Cond.methodLink RX7 67 Lib.Math.min.name, Cond.static Lib.Math.min.name]
def wsX11_ask_r5 : List Cond := [Cond.initialized "java/lang/Math", Cond.code Lib.Math.min.name Lib.Math.min.code 2 (some .int), Cond.methodLink RX7 73 Lib.Math.max.name, Cond.static Lib.Math.max.name, Cond.code Lib.Math.max.name Lib.Math.max.code 2 (some .int), Cond.methodLink RX7 57 yX7_holds, Cond.instanceMethod yX7_holds, Cond.selects RX7 yX7_holds yX7_holds, Cond.code yX7_holds cX7_holds 3 (some .boolean), Cond.fieldLink RX7 48 "PetrolBoard$Orders" "second" "[I", Cond.methodLink RX7 61 yX5_result, Cond.instanceMethod yX5_result, Cond.selects RX5 yX5_result yX5_result, Cond.initialized RX5, Cond.code yX5_result cX5_result 6 (some .int), Cond.methodLink RX5 18 Lib.Math.max.name, Cond.fieldLink RX5 15 "PetrolBoard$Machine" "stack" "[I", Cond.methodLink RX5 24 yX5_nameValue, Cond.instanceMethod yX5_nameValue, Cond.selects RX5 yX5_nameValue yX5_nameValue, Cond.code yX5_nameValue cX5_nameValue 2 (some .int), Cond.fieldLink RX5 9 "PetrolBoard$Machine" "names" "[I", Cond.methodLink RX5 28 yX5_joined, Cond.static yX5_joined]
def wsX11_ask_r6 : List Cond := [Cond.code yX5_joined cX5_joined 5 (some .int), Cond.constantLong RX5 32 (-1000000000), Cond.constantLong RX5 34 (1000000000), Cond.methodLink RX5 36 Lib.MathLoose.min_long.x, Cond.static Lib.MathLoose.min_long.x, Cond.code Lib.MathLoose.min_long.x Lib.MathLoose.min_long.code 4 (some .long), Cond.methodLink RX5 40 Lib.MathLoose.max_long.x, Cond.static Lib.MathLoose.max_long.x, Cond.code Lib.MathLoose.max_long.x Lib.MathLoose.max_long.code 4 (some .long)]
def wsX11_ask : List Cond := .code yX11_ask cX11_ask 8 (some .int) :: ((wsX11_ask_r1 ++ (wsX11_ask_r2 ++ (wsX11_ask_r3 ++ (wsX11_ask_r4 ++ (wsX11_ask_r5 ++ wsX11_ask_r6))))) ++ wsX110 ++ wsX30 ++ wsX20 ++ wsX60 ++ wsX70 ++ wsX50)
def wsX11_appeal_r1 : List Cond := [Cond.fieldLink RX11 68 "PetrolBoard" "journeys" "LPetrolBoard$Journeys;", Cond.fieldLink RX11 342 "PetrolBoard$Journeys" "reason" "[I", Cond.fieldLink RX11 332 "PetrolBoard$Journeys" "granted" "[I", Cond.fieldLink RX11 30 "PetrolBoard" "orderBook" "LPetrolBoard$OrderBook;", Cond.fieldLink RX11 16 "PetrolBoard" "holders" "LPetrolBoard$Holders;", Cond.methodLink RX11 328 yX3_has, Cond.instanceMethod yX3_has, Cond.selects RX3 yX3_has yX3_has, Cond.initialized RX3, Cond.code yX3_has cX3_has 2 (some .boolean), Cond.fieldLink RX3 45 "PetrolBoard$Journeys" "number" "I", Cond.methodLink RX11 319 yX11_isReason, Cond.static yX11_isReason, Cond.initialized RX11, Cond.code yX11_isReason cX11_isReason 1 (some .boolean), Cond.methodLink RX11 88 yX11_within, Cond.static yX11_within, Cond.code yX11_within cX11_within 3 (some .boolean), Cond.methodLink RX11 335 yX6_grant, Cond.instanceMethod yX6_grant, Cond.selects RX6 yX6_grant yX6_grant, Cond.initialized RX6, Cond.code yX6_grant cX6_grant 6 (some .int), Cond.fieldLink RX6 74 "PetrolBoard$Journeys" "asked" "[I"]
def wsX11_appeal_r2 : List Cond := [Cond.fieldLink RX6 78 "PetrolBoard$Journeys" "day" "[I", Cond.fieldLink RX6 81 "PetrolBoard$Journeys" "holder" "[I", Cond.fieldLink RX6 84 "PetrolBoard$Journeys" "miles" "[I", Cond.fieldLink RX6 87 "PetrolBoard$Journeys" "people" "[I", Cond.fieldLink RX6 90 "PetrolBoard$Journeys" "reason" "[I", Cond.fieldLink RX6 20 "PetrolBoard$OrderBook" "machine" "LPetrolBoard$Machine;", Cond.methodLink RX6 71 yX3_has, Cond.methodLink RX6 38 yX6_ordersOf, Cond.instanceMethod yX6_ordersOf, Cond.selects RX6 yX6_ordersOf yX6_ordersOf, Cond.code yX6_ordersOf cX6_ordersOf 4 (some (.object "PetrolBoard$Orders")), Cond.fieldLink RX6 11 "PetrolBoard$OrderBook" "told" "[LPetrolBoard$Orders;", Cond.methodLink RX6 34 yX6_inForce, Cond.instanceMethod yX6_inForce, Cond.selects RX6 yX6_inForce yX6_inForce, Cond.code yX6_inForce cX6_inForce 8 (some .int), Cond.fieldLink RX6 24 "PetrolBoard$OrderBook" "number" "I", Cond.fieldLink RX6 28 "PetrolBoard$Orders" "toldOn" "I", Cond.fieldLink RX6 31 "PetrolBoard$Orders" "month" "I", Cond.methodLink RX6 49 yX2_has, Cond.instanceMethod yX2_has, Cond.selects RX2 yX2_has yX2_has, Cond.initialized RX2, Cond.code yX2_has cX2_has 2 (some .boolean)]
def wsX11_appeal_r3 : List Cond := [Cond.fieldLink RX2 42 "PetrolBoard$Holders" "number" "I", Cond.methodLink RX6 55 yX6_putHolder, Cond.instanceMethod yX6_putHolder, Cond.selects RX6 yX6_putHolder yX6_putHolder, Cond.code yX6_putHolder cX6_putHolder 5 none, Cond.fieldLink RX6 93 "PetrolBoard$Machine" "names" "[I", Cond.fieldLink RX6 100 "PetrolBoard$Holders" "size" "[I", Cond.fieldLink RX6 103 "PetrolBoard$Holders" "town" "[I", Cond.methodLink RX6 96 yX2_kindOn, Cond.instanceMethod yX2_kindOn, Cond.selects RX2 yX2_kindOn yX2_kindOn, Cond.code yX2_kindOn cX2_kindOn 8 (some .int), Cond.fieldLink RX2 46 "PetrolBoard$Holders" "notes" "I", Cond.fieldLink RX2 27 "PetrolBoard$Holders" "noteOf" "[I", Cond.fieldLink RX2 33 "PetrolBoard$Holders" "from" "[I", Cond.fieldLink RX2 36 "PetrolBoard$Holders" "toldOn" "[I", Cond.fieldLink RX2 39 "PetrolBoard$Holders" "undoneOn" "[I", Cond.fieldLink RX2 30 "PetrolBoard$Holders" "kind" "[I", Cond.methodLink RX6 59 yX6_putJourney, Cond.instanceMethod yX6_putJourney, Cond.selects RX6 yX6_putJourney yX6_putJourney, Cond.code yX6_putJourney cX6_putJourney 4 none, Cond.methodLink RX6 67 yX7_dealt, Cond.instanceMethod yX7_dealt]
def wsX11_appeal_r4 : List Cond := [Cond.selects RX7 yX7_dealt yX7_dealt, Cond.initialized RX7, Cond.code yX7_dealt cX7_dealt 5 (some .int), Cond.fieldLink RX7 40 "PetrolBoard$Orders" "head" "[I", Cond.fieldLink RX7 44 "PetrolBoard$Orders" "first" "[I", Cond.fieldLink RX7 52 "PetrolBoard$Orders" "code" "[I", Cond.methodLink RX7 67 Lib.Math.min.name, Cond.static Lib.Math.min.name, Cond.initialized "java/lang/Math", Cond.code Lib.Math.min.name Lib.Math.min.code 2 (some .int), Cond.methodLink RX7 73 Lib.Math.max.name, Cond.static Lib.Math.max.name, Cond.code Lib.Math.max.name Lib.Math.max.code 2 (some .int), Cond.methodLink RX7 57 yX7_holds, Cond.instanceMethod yX7_holds, Cond.selects RX7 yX7_holds yX7_holds, Cond.code yX7_holds cX7_holds 3 (some .boolean), Cond.fieldLink RX7 48 "PetrolBoard$Orders" "second" "[I", Cond.methodLink RX7 61 yX5_result, Cond.instanceMethod yX5_result, Cond.selects RX5 yX5_result yX5_result, Cond.initialized RX5, Cond.code yX5_result cX5_result 6 (some .int), Cond.methodLink RX5 18 Lib.Math.max.name]
def wsX11_appeal_r5 : List Cond := [Cond.fieldLink RX5 15 "PetrolBoard$Machine" "stack" "[I", Cond.methodLink RX5 24 yX5_nameValue, Cond.instanceMethod yX5_nameValue, Cond.selects RX5 yX5_nameValue yX5_nameValue, Cond.code yX5_nameValue cX5_nameValue 2 (some .int), Cond.fieldLink RX5 9 "PetrolBoard$Machine" "names" "[I", Cond.methodLink RX5 28 yX5_joined, Cond.static yX5_joined, Cond.code yX5_joined cX5_joined 5 (some .int), Cond.constantLong RX5 32 (-1000000000), Cond.constantLong RX5 34 (1000000000), Cond.methodLink RX5 36 Lib.MathLoose.min_long.x, Cond.static Lib.MathLoose.min_long.x, Cond.code Lib.MathLoose.min_long.x Lib.MathLoose.min_long.code 4 (some .long), Cond.methodLink RX5 40 Lib.MathLoose.max_long.x, Cond.static Lib.MathLoose.max_long.x, Cond.code Lib.MathLoose.max_long.x Lib.MathLoose.max_long.code 4 (some .long)]
def wsX11_appeal : List Cond := .code yX11_appeal cX11_appeal 3 (some .int) :: ((wsX11_appeal_r1 ++ (wsX11_appeal_r2 ++ (wsX11_appeal_r3 ++ (wsX11_appeal_r4 ++ wsX11_appeal_r5)))) ++ wsX110 ++ wsX30 ++ wsX60 ++ wsX70 ++ wsX20 ++ wsX50)
def wsX11_journey_r1 : List Cond := [Cond.fieldLink RX11 68 "PetrolBoard" "journeys" "LPetrolBoard$Journeys;", Cond.fieldLink RX11 16 "PetrolBoard" "holders" "LPetrolBoard$Holders;", Cond.fieldLink RX11 85 "PetrolBoard" "today" "I", Cond.methodLink RX11 328 yX3_has, Cond.instanceMethod yX3_has, Cond.selects RX3 yX3_has yX3_has, Cond.initialized RX3, Cond.code yX3_has cX3_has 2 (some .boolean), Cond.fieldLink RX3 45 "PetrolBoard$Journeys" "number" "I", Cond.methodLink RX11 345 yX3_likeOf, Cond.instanceMethod yX3_likeOf, Cond.selects RX3 yX3_likeOf yX3_likeOf, Cond.code yX3_likeOf cX3_likeOf 7 (some .int), Cond.methodLink RX3 53 yX3_isLike, Cond.instanceMethod yX3_isLike, Cond.selects RX3 yX3_isLike yX3_isLike, Cond.code yX3_isLike cX3_isLike 5 (some .boolean), Cond.fieldLink RX3 33 "PetrolBoard$Journeys" "granted" "[I", Cond.fieldLink RX3 21 "PetrolBoard$Journeys" "reason" "[I", Cond.fieldLink RX3 18 "PetrolBoard$Journeys" "people" "[I", Cond.fieldLink RX3 15 "PetrolBoard$Journeys" "miles" "[I", Cond.methodLink RX3 57 Lib.Math.abs.name, Cond.static Lib.Math.abs.name, Cond.initialized "java/lang/Math"]
def wsX11_journey_r2 : List Cond := [Cond.code Lib.Math.abs.name Lib.Math.abs.code 1 (some .int), Cond.fieldLink RX3 9 "PetrolBoard$Journeys" "holder" "[I", Cond.fieldLink RX3 24 "PetrolBoard$Journeys" "day" "[I", Cond.methodLink RX3 49 yX3_has, Cond.methodLink RX3 63 yX2_kindOn, Cond.instanceMethod yX2_kindOn, Cond.selects RX2 yX2_kindOn yX2_kindOn, Cond.initialized RX2, Cond.code yX2_kindOn cX2_kindOn 8 (some .int), Cond.fieldLink RX2 46 "PetrolBoard$Holders" "notes" "I", Cond.fieldLink RX2 27 "PetrolBoard$Holders" "noteOf" "[I", Cond.fieldLink RX2 33 "PetrolBoard$Holders" "from" "[I", Cond.fieldLink RX2 36 "PetrolBoard$Holders" "toldOn" "[I", Cond.fieldLink RX2 39 "PetrolBoard$Holders" "undoneOn" "[I", Cond.fieldLink RX2 30 "PetrolBoard$Holders" "kind" "[I", Cond.methodLink RX11 348 yX3_tell, Cond.instanceMethod yX3_tell, Cond.selects RX3 yX3_tell yX3_tell, Cond.code yX3_tell cX3_tell 3 (some .int), Cond.fieldLink RX3 27 "PetrolBoard$Journeys" "way" "[I", Cond.fieldLink RX3 36 "PetrolBoard$Journeys" "grantedFirst" "[I"]
def wsX11_journey : List Cond := .code yX11_journey cX11_journey 3 (some .int) :: ((wsX11_journey_r1 ++ wsX11_journey_r2) ++ wsX110 ++ wsX30 ++ wsX20)
def wsX11_pool_r1 : List Cond := [Cond.fieldLink RX11 68 "PetrolBoard" "journeys" "LPetrolBoard$Journeys;", Cond.fieldLink RX11 16 "PetrolBoard" "holders" "LPetrolBoard$Holders;", Cond.fieldLink RX11 353 "PetrolBoard$Journeys" "poolCars" "I", Cond.fieldLink RX11 356 "PetrolBoard$Journeys" "poolCost" "I", Cond.fieldLink RX11 359 "PetrolBoard$Journeys" "poolSet" "I", Cond.fieldLink RX11 362 "PetrolBoard$Journeys" "poolPeople" "I", Cond.methodLink RX11 100 yX11_isDay, Cond.static yX11_isDay, Cond.initialized RX11, Cond.code yX11_isDay cX11_isDay 1 (some .boolean), Cond.methodLink RX11 88 yX11_within, Cond.static yX11_within, Cond.code yX11_within cX11_within 3 (some .boolean), Cond.methodLink RX11 322 yX11_isWay, Cond.static yX11_isWay, Cond.code yX11_isWay cX11_isWay 1 (some .boolean), Cond.methodLink RX11 349 yX3_poolOf, Cond.instanceMethod yX3_poolOf, Cond.selects RX3 yX3_poolOf yX3_poolOf, Cond.initialized RX3, Cond.code yX3_poolOf cX3_poolOf 6 (some .boolean), Cond.fieldLink RX3 73 "PetrolBoard$Journeys" "poolSet" "I", Cond.fieldLink RX3 76 "PetrolBoard$Journeys" "pooled" "I", Cond.methodLink RX3 79 Lib.Math.min.name]
def wsX11_pool_r2 : List Cond := [Cond.static Lib.Math.min.name, Cond.initialized "java/lang/Math", Cond.code Lib.Math.min.name Lib.Math.min.code 2 (some .int), Cond.methodLink RX3 69 yX3_gather, Cond.instanceMethod yX3_gather, Cond.selects RX3 yX3_gather yX3_gather, Cond.code yX3_gather cX3_gather 5 none, Cond.fieldLink RX3 87 "PetrolBoard$Journeys" "poolPeople" "I", Cond.fieldLink RX3 45 "PetrolBoard$Journeys" "number" "I", Cond.fieldLink RX3 24 "PetrolBoard$Journeys" "day" "[I", Cond.fieldLink RX3 27 "PetrolBoard$Journeys" "way" "[I", Cond.fieldLink RX3 9 "PetrolBoard$Journeys" "holder" "[I", Cond.fieldLink RX3 39 "PetrolBoard$Journeys" "pooledSeats" "[I", Cond.fieldLink RX3 91 "PetrolBoard$Holders" "seats" "[I", Cond.fieldLink RX3 42 "PetrolBoard$Journeys" "pooledCost" "[I", Cond.fieldLink RX3 15 "PetrolBoard$Journeys" "miles" "[I", Cond.fieldLink RX3 94 "PetrolBoard$Holders" "size" "[I", Cond.fieldLink RX3 18 "PetrolBoard$Journeys" "people" "[I", Cond.methodLink RX3 90 yX2_has, Cond.instanceMethod yX2_has, Cond.selects RX2 yX2_has yX2_has, Cond.initialized RX2, Cond.code yX2_has cX2_has 2 (some .boolean), Cond.fieldLink RX2 42 "PetrolBoard$Holders" "number" "I"]
def wsX11_pool_r3 : List Cond := [Cond.methodLink RX3 83 yX3_weigh, Cond.instanceMethod yX3_weigh, Cond.selects RX3 yX3_weigh yX3_weigh, Cond.code yX3_weigh cX3_weigh 6 none, Cond.fieldLink RX3 102 "PetrolBoard$Journeys" "poolCars" "I", Cond.fieldLink RX3 105 "PetrolBoard$Journeys" "poolCost" "I", Cond.methodLink RX3 97 yJ6_bitCount_0f7a4, Cond.static yJ6_bitCount_0f7a4, Cond.initialized RJ6, Cond.code yJ6_bitCount_0f7a4 cJ6_bitCount_0f7a4 1 (some .int), Cond.constant RJ6 265 (1431655765), Cond.constant RJ6 266 (858993459), Cond.constant RJ6 267 (252645135)]
def wsX11_pool : List Cond := .code yX11_pool cX11_pool 4 (some .int) :: ((wsX11_pool_r1 ++ (wsX11_pool_r2 ++ wsX11_pool_r3)) ++ wsX110 ++ wsX30 ++ wsX20)
def wsX11_dealOut_r1 : List Cond := [Cond.fieldLink RX11 75 "PetrolBoard" "deal" "LPetrolBoard$Deal;", Cond.fieldLink RX11 16 "PetrolBoard" "holders" "LPetrolBoard$Holders;", Cond.fieldLink RX11 373 "PetrolBoard$Holders" "number" "I", Cond.fieldLink RX11 30 "PetrolBoard" "orderBook" "LPetrolBoard$OrderBook;", Cond.fieldLink RX11 85 "PetrolBoard" "today" "I", Cond.methodLink RX11 377 yX1_clear, Cond.instanceMethod yX1_clear, Cond.selects RX1 yX1_clear yX1_clear, Cond.initialized RX1, Cond.code yX1_clear cX1_clear 1 none, Cond.fieldLink RX1 18 "PetrolBoard$Deal" "number" "I", Cond.methodLink RX11 147 yX6_unitsOf, Cond.instanceMethod yX6_unitsOf, Cond.selects RX6 yX6_unitsOf yX6_unitsOf, Cond.initialized RX6, Cond.code yX6_unitsOf cX6_unitsOf 6 (some .int), Cond.fieldLink RX6 20 "PetrolBoard$OrderBook" "machine" "LPetrolBoard$Machine;", Cond.methodLink RX6 38 yX6_ordersOf, Cond.instanceMethod yX6_ordersOf, Cond.selects RX6 yX6_ordersOf yX6_ordersOf, Cond.code yX6_ordersOf cX6_ordersOf 4 (some (.object "PetrolBoard$Orders")), Cond.fieldLink RX6 11 "PetrolBoard$OrderBook" "told" "[LPetrolBoard$Orders;", Cond.methodLink RX6 34 yX6_inForce, Cond.instanceMethod yX6_inForce]
def wsX11_dealOut_r2 : List Cond := [Cond.selects RX6 yX6_inForce yX6_inForce, Cond.code yX6_inForce cX6_inForce 8 (some .int), Cond.fieldLink RX6 24 "PetrolBoard$OrderBook" "number" "I", Cond.fieldLink RX6 28 "PetrolBoard$Orders" "toldOn" "I", Cond.fieldLink RX6 31 "PetrolBoard$Orders" "month" "I", Cond.methodLink RX6 49 yX2_has, Cond.instanceMethod yX2_has, Cond.selects RX2 yX2_has yX2_has, Cond.initialized RX2, Cond.code yX2_has cX2_has 2 (some .boolean), Cond.fieldLink RX2 42 "PetrolBoard$Holders" "number" "I", Cond.methodLink RX6 55 yX6_putHolder, Cond.instanceMethod yX6_putHolder, Cond.selects RX6 yX6_putHolder yX6_putHolder, Cond.code yX6_putHolder cX6_putHolder 5 none, Cond.fieldLink RX6 93 "PetrolBoard$Machine" "names" "[I", Cond.fieldLink RX6 100 "PetrolBoard$Holders" "size" "[I", Cond.fieldLink RX6 103 "PetrolBoard$Holders" "town" "[I", Cond.methodLink RX6 96 yX2_kindOn, Cond.instanceMethod yX2_kindOn, Cond.selects RX2 yX2_kindOn yX2_kindOn, Cond.code yX2_kindOn cX2_kindOn 8 (some .int), Cond.fieldLink RX2 46 "PetrolBoard$Holders" "notes" "I", Cond.fieldLink RX2 27 "PetrolBoard$Holders" "noteOf" "[I"]
def wsX11_dealOut_r3 : List Cond := [Cond.fieldLink RX2 33 "PetrolBoard$Holders" "from" "[I", Cond.fieldLink RX2 36 "PetrolBoard$Holders" "toldOn" "[I", Cond.fieldLink RX2 39 "PetrolBoard$Holders" "undoneOn" "[I", Cond.fieldLink RX2 30 "PetrolBoard$Holders" "kind" "[I", Cond.methodLink RX6 59 yX6_putJourney, Cond.instanceMethod yX6_putJourney, Cond.selects RX6 yX6_putJourney yX6_putJourney, Cond.code yX6_putJourney cX6_putJourney 4 none, Cond.methodLink RX6 63 yX7_stops, Cond.instanceMethod yX7_stops, Cond.selects RX7 yX7_stops yX7_stops, Cond.initialized RX7, Cond.code yX7_stops cX7_stops 3 (some .boolean), Cond.fieldLink RX7 40 "PetrolBoard$Orders" "head" "[I", Cond.methodLink RX7 57 yX7_holds, Cond.instanceMethod yX7_holds, Cond.selects RX7 yX7_holds yX7_holds, Cond.code yX7_holds cX7_holds 3 (some .boolean), Cond.fieldLink RX7 48 "PetrolBoard$Orders" "second" "[I", Cond.fieldLink RX7 52 "PetrolBoard$Orders" "code" "[I", Cond.methodLink RX7 61 yX5_result, Cond.instanceMethod yX5_result, Cond.selects RX5 yX5_result yX5_result, Cond.initialized RX5]
def wsX11_dealOut_r4 : List Cond := [Cond.code yX5_result cX5_result 6 (some .int), Cond.methodLink RX5 18 Lib.Math.max.name, Cond.static Lib.Math.max.name, Cond.initialized "java/lang/Math", Cond.code Lib.Math.max.name Lib.Math.max.code 2 (some .int), Cond.fieldLink RX5 15 "PetrolBoard$Machine" "stack" "[I", Cond.methodLink RX5 24 yX5_nameValue, Cond.instanceMethod yX5_nameValue, Cond.selects RX5 yX5_nameValue yX5_nameValue, Cond.code yX5_nameValue cX5_nameValue 2 (some .int), Cond.fieldLink RX5 9 "PetrolBoard$Machine" "names" "[I", Cond.methodLink RX5 28 yX5_joined, Cond.static yX5_joined, Cond.code yX5_joined cX5_joined 5 (some .int), Cond.constantLong RX5 32 (-1000000000), Cond.constantLong RX5 34 (1000000000), Cond.methodLink RX5 36 Lib.MathLoose.min_long.x, Cond.static Lib.MathLoose.min_long.x, Cond.code Lib.MathLoose.min_long.x Lib.MathLoose.min_long.code 4 (some .long), Cond.methodLink RX5 40 Lib.MathLoose.max_long.x, Cond.static Lib.MathLoose.max_long.x, Cond.code Lib.MathLoose.max_long.x Lib.MathLoose.max_long.code 4 (some .long), Cond.methodLink RX6 67 yX7_dealt, Cond.instanceMethod yX7_dealt]
def wsX11_dealOut_r5 : List Cond := [Cond.selects RX7 yX7_dealt yX7_dealt, Cond.code yX7_dealt cX7_dealt 5 (some .int), Cond.fieldLink RX7 44 "PetrolBoard$Orders" "first" "[I", Cond.methodLink RX7 67 Lib.Math.min.name, Cond.static Lib.Math.min.name, Cond.code Lib.Math.min.name Lib.Math.min.code 2 (some .int), Cond.methodLink RX7 73 Lib.Math.max.name, Cond.methodLink RX11 380 yX1_put, Cond.instanceMethod yX1_put, Cond.selects RX1 yX1_put yX1_put, Cond.code yX1_put cX1_put 2 none, Cond.fieldLink RX1 9 "PetrolBoard$Deal" "units" "[I", Cond.methodLink RX11 381 yX1_alike, Cond.instanceMethod yX1_alike, Cond.selects RX1 yX1_alike yX1_alike, Cond.code yX1_alike cX1_alike 3 none, Cond.methodLink RX1 22 yX1_together, Cond.instanceMethod yX1_together, Cond.selects RX1 yX1_together yX1_together, Cond.code yX1_together cX1_together 3 (some .int), Cond.methodLink RX11 384 yX1_sell, Cond.instanceMethod yX1_sell, Cond.selects RX1 yX1_sell yX1_sell, Cond.code yX1_sell cX1_sell 5 none]
def wsX11_dealOut_r6 : List Cond := [Cond.fieldLink RX1 15 "PetrolBoard$Deal" "served" "[I", Cond.fieldLink RX1 36 "PetrolBoard$Holders" "need" "[I", Cond.methodLink RX1 41 Lib.Math.min.name, Cond.methodLink RX1 26 yJ7_fill_53178, Cond.static yJ7_fill_53178, Cond.initialized RJ7, Cond.code yJ7_fill_53178 cJ7_fill_53178 4 none, Cond.methodLink RX1 32 yX1_bestBidder, Cond.instanceMethod yX1_bestBidder, Cond.selects RX1 yX1_bestBidder yX1_bestBidder, Cond.code yX1_bestBidder cX1_bestBidder 4 (some .int), Cond.fieldLink RX1 51 "PetrolBoard$Holders" "bid" "[I", Cond.methodLink RX1 47 yX2_has]
def wsX11_dealOut : List Cond := .code yX11_dealOut cX11_dealOut 4 none :: ((wsX11_dealOut_r1 ++ (wsX11_dealOut_r2 ++ (wsX11_dealOut_r3 ++ (wsX11_dealOut_r4 ++ (wsX11_dealOut_r5 ++ wsX11_dealOut_r6))))) ++ wsX110 ++ wsX20 ++ wsX10 ++ wsX60 ++ wsX70 ++ wsX50)
def wsX11_remains : List Cond := .code yX11_remains cX11_remains 2 (some .boolean) :: ([.fieldLink RX11 16 "PetrolBoard" "holders" "LPetrolBoard$Holders;", .fieldLink RX11 75 "PetrolBoard" "deal" "LPetrolBoard$Deal;", .fieldLink RX11 374 "PetrolBoard$Holders" "need" "[I", .methodLink RX11 96 yX2_has, .instanceMethod yX2_has, .selects RX2 yX2_has yX2_has, .initialized RX2, .code yX2_has cX2_has 2 (some .boolean), .fieldLink RX2 42 "PetrolBoard$Holders" "number" "I", .methodLink RX11 368 yX1_unitsOf, .instanceMethod yX1_unitsOf, .selects RX1 yX1_unitsOf yX1_unitsOf, .initialized RX1, .code yX1_unitsOf cX1_unitsOf 2 (some .int), .fieldLink RX1 18 "PetrolBoard$Deal" "number" "I", .fieldLink RX1 9 "PetrolBoard$Deal" "units" "[I"] ++ wsX110 ++ wsX20 ++ wsX10)
def wsX11_other_r1 : List Cond := [Cond.fieldLink RX11 16 "PetrolBoard" "holders" "LPetrolBoard$Holders;", Cond.fieldLink RX11 75 "PetrolBoard" "deal" "LPetrolBoard$Deal;", Cond.methodLink RX11 88 yX11_within, Cond.static yX11_within, Cond.initialized RX11, Cond.code yX11_within cX11_within 3 (some .boolean), Cond.methodLink RX11 122 yX11_isMonth, Cond.static yX11_isMonth, Cond.code yX11_isMonth cX11_isMonth 1 (some .boolean), Cond.methodLink RX11 96 yX2_has, Cond.instanceMethod yX2_has, Cond.selects RX2 yX2_has yX2_has, Cond.initialized RX2, Cond.code yX2_has cX2_has 2 (some .boolean), Cond.fieldLink RX2 42 "PetrolBoard$Holders" "number" "I", Cond.methodLink RX11 365 yX11_dealOut, Cond.instanceMethod yX11_dealOut, Cond.selects RX11 yX11_dealOut yX11_dealOut, Cond.code yX11_dealOut cX11_dealOut 4 none, Cond.fieldLink RX11 373 "PetrolBoard$Holders" "number" "I", Cond.fieldLink RX11 30 "PetrolBoard" "orderBook" "LPetrolBoard$OrderBook;", Cond.fieldLink RX11 85 "PetrolBoard" "today" "I", Cond.methodLink RX11 377 yX1_clear, Cond.instanceMethod yX1_clear]
def wsX11_other_r2 : List Cond := [Cond.selects RX1 yX1_clear yX1_clear, Cond.initialized RX1, Cond.code yX1_clear cX1_clear 1 none, Cond.fieldLink RX1 18 "PetrolBoard$Deal" "number" "I", Cond.methodLink RX11 147 yX6_unitsOf, Cond.instanceMethod yX6_unitsOf, Cond.selects RX6 yX6_unitsOf yX6_unitsOf, Cond.initialized RX6, Cond.code yX6_unitsOf cX6_unitsOf 6 (some .int), Cond.fieldLink RX6 20 "PetrolBoard$OrderBook" "machine" "LPetrolBoard$Machine;", Cond.methodLink RX6 38 yX6_ordersOf, Cond.instanceMethod yX6_ordersOf, Cond.selects RX6 yX6_ordersOf yX6_ordersOf, Cond.code yX6_ordersOf cX6_ordersOf 4 (some (.object "PetrolBoard$Orders")), Cond.fieldLink RX6 11 "PetrolBoard$OrderBook" "told" "[LPetrolBoard$Orders;", Cond.methodLink RX6 34 yX6_inForce, Cond.instanceMethod yX6_inForce, Cond.selects RX6 yX6_inForce yX6_inForce, Cond.code yX6_inForce cX6_inForce 8 (some .int), Cond.fieldLink RX6 24 "PetrolBoard$OrderBook" "number" "I", Cond.fieldLink RX6 28 "PetrolBoard$Orders" "toldOn" "I", Cond.fieldLink RX6 31 "PetrolBoard$Orders" "month" "I", Cond.methodLink RX6 49 yX2_has, Cond.methodLink RX6 55 yX6_putHolder]
def wsX11_other_r3 : List Cond := [Cond.instanceMethod yX6_putHolder, Cond.selects RX6 yX6_putHolder yX6_putHolder, Cond.code yX6_putHolder cX6_putHolder 5 none, Cond.fieldLink RX6 93 "PetrolBoard$Machine" "names" "[I", Cond.fieldLink RX6 100 "PetrolBoard$Holders" "size" "[I", Cond.fieldLink RX6 103 "PetrolBoard$Holders" "town" "[I", Cond.methodLink RX6 96 yX2_kindOn, Cond.instanceMethod yX2_kindOn, Cond.selects RX2 yX2_kindOn yX2_kindOn, Cond.code yX2_kindOn cX2_kindOn 8 (some .int), Cond.fieldLink RX2 46 "PetrolBoard$Holders" "notes" "I", Cond.fieldLink RX2 27 "PetrolBoard$Holders" "noteOf" "[I", Cond.fieldLink RX2 33 "PetrolBoard$Holders" "from" "[I", Cond.fieldLink RX2 36 "PetrolBoard$Holders" "toldOn" "[I", Cond.fieldLink RX2 39 "PetrolBoard$Holders" "undoneOn" "[I", Cond.fieldLink RX2 30 "PetrolBoard$Holders" "kind" "[I", Cond.methodLink RX6 59 yX6_putJourney, Cond.instanceMethod yX6_putJourney, Cond.selects RX6 yX6_putJourney yX6_putJourney, Cond.code yX6_putJourney cX6_putJourney 4 none, Cond.methodLink RX6 63 yX7_stops, Cond.instanceMethod yX7_stops, Cond.selects RX7 yX7_stops yX7_stops, Cond.initialized RX7]
def wsX11_other_r4 : List Cond := [Cond.code yX7_stops cX7_stops 3 (some .boolean), Cond.fieldLink RX7 40 "PetrolBoard$Orders" "head" "[I", Cond.methodLink RX7 57 yX7_holds, Cond.instanceMethod yX7_holds, Cond.selects RX7 yX7_holds yX7_holds, Cond.code yX7_holds cX7_holds 3 (some .boolean), Cond.fieldLink RX7 48 "PetrolBoard$Orders" "second" "[I", Cond.fieldLink RX7 52 "PetrolBoard$Orders" "code" "[I", Cond.methodLink RX7 61 yX5_result, Cond.instanceMethod yX5_result, Cond.selects RX5 yX5_result yX5_result, Cond.initialized RX5, Cond.code yX5_result cX5_result 6 (some .int), Cond.methodLink RX5 18 Lib.Math.max.name, Cond.static Lib.Math.max.name, Cond.initialized "java/lang/Math", Cond.code Lib.Math.max.name Lib.Math.max.code 2 (some .int), Cond.fieldLink RX5 15 "PetrolBoard$Machine" "stack" "[I", Cond.methodLink RX5 24 yX5_nameValue, Cond.instanceMethod yX5_nameValue, Cond.selects RX5 yX5_nameValue yX5_nameValue, Cond.code yX5_nameValue cX5_nameValue 2 (some .int), Cond.fieldLink RX5 9 "PetrolBoard$Machine" "names" "[I", Cond.methodLink RX5 28 yX5_joined]
def wsX11_other_r5 : List Cond := [Cond.static yX5_joined, Cond.code yX5_joined cX5_joined 5 (some .int), Cond.constantLong RX5 32 (-1000000000), Cond.constantLong RX5 34 (1000000000), Cond.methodLink RX5 36 Lib.MathLoose.min_long.x, Cond.static Lib.MathLoose.min_long.x, Cond.code Lib.MathLoose.min_long.x Lib.MathLoose.min_long.code 4 (some .long), Cond.methodLink RX5 40 Lib.MathLoose.max_long.x, Cond.static Lib.MathLoose.max_long.x, Cond.code Lib.MathLoose.max_long.x Lib.MathLoose.max_long.code 4 (some .long), Cond.methodLink RX6 67 yX7_dealt, Cond.instanceMethod yX7_dealt, Cond.selects RX7 yX7_dealt yX7_dealt, Cond.code yX7_dealt cX7_dealt 5 (some .int), Cond.fieldLink RX7 44 "PetrolBoard$Orders" "first" "[I", Cond.methodLink RX7 67 Lib.Math.min.name, Cond.static Lib.Math.min.name, Cond.code Lib.Math.min.name Lib.Math.min.code 2 (some .int), Cond.methodLink RX7 73 Lib.Math.max.name, Cond.methodLink RX11 380 yX1_put, Cond.instanceMethod yX1_put, Cond.selects RX1 yX1_put yX1_put, Cond.code yX1_put cX1_put 2 none, Cond.fieldLink RX1 9 "PetrolBoard$Deal" "units" "[I"]
def wsX11_other_r6 : List Cond := [Cond.methodLink RX11 381 yX1_alike, Cond.instanceMethod yX1_alike, Cond.selects RX1 yX1_alike yX1_alike, Cond.code yX1_alike cX1_alike 3 none, Cond.methodLink RX1 22 yX1_together, Cond.instanceMethod yX1_together, Cond.selects RX1 yX1_together yX1_together, Cond.code yX1_together cX1_together 3 (some .int), Cond.methodLink RX11 384 yX1_sell, Cond.instanceMethod yX1_sell, Cond.selects RX1 yX1_sell yX1_sell, Cond.code yX1_sell cX1_sell 5 none, Cond.fieldLink RX1 15 "PetrolBoard$Deal" "served" "[I", Cond.fieldLink RX1 36 "PetrolBoard$Holders" "need" "[I", Cond.methodLink RX1 41 Lib.Math.min.name, Cond.methodLink RX1 26 yJ7_fill_53178, Cond.static yJ7_fill_53178, Cond.initialized RJ7, Cond.code yJ7_fill_53178 cJ7_fill_53178 4 none, Cond.methodLink RX1 32 yX1_bestBidder, Cond.instanceMethod yX1_bestBidder, Cond.selects RX1 yX1_bestBidder yX1_bestBidder, Cond.code yX1_bestBidder cX1_bestBidder 4 (some .int), Cond.fieldLink RX1 51 "PetrolBoard$Holders" "bid" "[I"]
def wsX11_other_r7 : List Cond := [Cond.methodLink RX1 47 yX2_has, Cond.methodLink RX11 368 yX1_unitsOf, Cond.instanceMethod yX1_unitsOf, Cond.selects RX1 yX1_unitsOf yX1_unitsOf, Cond.code yX1_unitsOf cX1_unitsOf 2 (some .int), Cond.methodLink RX11 370 yX11_remains, Cond.instanceMethod yX11_remains, Cond.selects RX11 yX11_remains yX11_remains, Cond.code yX11_remains cX11_remains 2 (some .boolean), Cond.fieldLink RX11 374 "PetrolBoard$Holders" "need" "[I"]
def wsX11_other : List Cond := .code yX11_other cX11_other 5 (some .int) :: ((wsX11_other_r1 ++ (wsX11_other_r2 ++ (wsX11_other_r3 ++ (wsX11_other_r4 ++ (wsX11_other_r5 ++ (wsX11_other_r6 ++ wsX11_other_r7)))))) ++ wsX110 ++ wsX20 ++ wsX10 ++ wsX60 ++ wsX70 ++ wsX50)
def wsX11_stays_r1 : List Cond := [Cond.fieldLink RX11 16 "PetrolBoard" "holders" "LPetrolBoard$Holders;", Cond.fieldLink RX11 373 "PetrolBoard$Holders" "number" "I", Cond.methodLink RX11 88 yX11_within, Cond.static yX11_within, Cond.initialized RX11, Cond.code yX11_within cX11_within 3 (some .boolean), Cond.methodLink RX11 122 yX11_isMonth, Cond.static yX11_isMonth, Cond.code yX11_isMonth cX11_isMonth 1 (some .boolean), Cond.methodLink RX11 365 yX11_dealOut, Cond.instanceMethod yX11_dealOut, Cond.selects RX11 yX11_dealOut yX11_dealOut, Cond.code yX11_dealOut cX11_dealOut 4 none, Cond.fieldLink RX11 75 "PetrolBoard" "deal" "LPetrolBoard$Deal;", Cond.fieldLink RX11 30 "PetrolBoard" "orderBook" "LPetrolBoard$OrderBook;", Cond.fieldLink RX11 85 "PetrolBoard" "today" "I", Cond.methodLink RX11 377 yX1_clear, Cond.instanceMethod yX1_clear, Cond.selects RX1 yX1_clear yX1_clear, Cond.initialized RX1, Cond.code yX1_clear cX1_clear 1 none, Cond.fieldLink RX1 18 "PetrolBoard$Deal" "number" "I", Cond.methodLink RX11 147 yX6_unitsOf, Cond.instanceMethod yX6_unitsOf]
def wsX11_stays_r2 : List Cond := [Cond.selects RX6 yX6_unitsOf yX6_unitsOf, Cond.initialized RX6, Cond.code yX6_unitsOf cX6_unitsOf 6 (some .int), Cond.fieldLink RX6 20 "PetrolBoard$OrderBook" "machine" "LPetrolBoard$Machine;", Cond.methodLink RX6 38 yX6_ordersOf, Cond.instanceMethod yX6_ordersOf, Cond.selects RX6 yX6_ordersOf yX6_ordersOf, Cond.code yX6_ordersOf cX6_ordersOf 4 (some (.object "PetrolBoard$Orders")), Cond.fieldLink RX6 11 "PetrolBoard$OrderBook" "told" "[LPetrolBoard$Orders;", Cond.methodLink RX6 34 yX6_inForce, Cond.instanceMethod yX6_inForce, Cond.selects RX6 yX6_inForce yX6_inForce, Cond.code yX6_inForce cX6_inForce 8 (some .int), Cond.fieldLink RX6 24 "PetrolBoard$OrderBook" "number" "I", Cond.fieldLink RX6 28 "PetrolBoard$Orders" "toldOn" "I", Cond.fieldLink RX6 31 "PetrolBoard$Orders" "month" "I", Cond.methodLink RX6 49 yX2_has, Cond.instanceMethod yX2_has, Cond.selects RX2 yX2_has yX2_has, Cond.initialized RX2, Cond.code yX2_has cX2_has 2 (some .boolean), Cond.fieldLink RX2 42 "PetrolBoard$Holders" "number" "I", Cond.methodLink RX6 55 yX6_putHolder, Cond.instanceMethod yX6_putHolder]
def wsX11_stays_r3 : List Cond := [Cond.selects RX6 yX6_putHolder yX6_putHolder, Cond.code yX6_putHolder cX6_putHolder 5 none, Cond.fieldLink RX6 93 "PetrolBoard$Machine" "names" "[I", Cond.fieldLink RX6 100 "PetrolBoard$Holders" "size" "[I", Cond.fieldLink RX6 103 "PetrolBoard$Holders" "town" "[I", Cond.methodLink RX6 96 yX2_kindOn, Cond.instanceMethod yX2_kindOn, Cond.selects RX2 yX2_kindOn yX2_kindOn, Cond.code yX2_kindOn cX2_kindOn 8 (some .int), Cond.fieldLink RX2 46 "PetrolBoard$Holders" "notes" "I", Cond.fieldLink RX2 27 "PetrolBoard$Holders" "noteOf" "[I", Cond.fieldLink RX2 33 "PetrolBoard$Holders" "from" "[I", Cond.fieldLink RX2 36 "PetrolBoard$Holders" "toldOn" "[I", Cond.fieldLink RX2 39 "PetrolBoard$Holders" "undoneOn" "[I", Cond.fieldLink RX2 30 "PetrolBoard$Holders" "kind" "[I", Cond.methodLink RX6 59 yX6_putJourney, Cond.instanceMethod yX6_putJourney, Cond.selects RX6 yX6_putJourney yX6_putJourney, Cond.code yX6_putJourney cX6_putJourney 4 none, Cond.methodLink RX6 63 yX7_stops, Cond.instanceMethod yX7_stops, Cond.selects RX7 yX7_stops yX7_stops, Cond.initialized RX7, Cond.code yX7_stops cX7_stops 3 (some .boolean)]
def wsX11_stays_r4 : List Cond := [Cond.fieldLink RX7 40 "PetrolBoard$Orders" "head" "[I", Cond.methodLink RX7 57 yX7_holds, Cond.instanceMethod yX7_holds, Cond.selects RX7 yX7_holds yX7_holds, Cond.code yX7_holds cX7_holds 3 (some .boolean), Cond.fieldLink RX7 48 "PetrolBoard$Orders" "second" "[I", Cond.fieldLink RX7 52 "PetrolBoard$Orders" "code" "[I", Cond.methodLink RX7 61 yX5_result, Cond.instanceMethod yX5_result, Cond.selects RX5 yX5_result yX5_result, Cond.initialized RX5, Cond.code yX5_result cX5_result 6 (some .int), Cond.methodLink RX5 18 Lib.Math.max.name, Cond.static Lib.Math.max.name, Cond.initialized "java/lang/Math", Cond.code Lib.Math.max.name Lib.Math.max.code 2 (some .int), Cond.fieldLink RX5 15 "PetrolBoard$Machine" "stack" "[I", Cond.methodLink RX5 24 yX5_nameValue, Cond.instanceMethod yX5_nameValue, Cond.selects RX5 yX5_nameValue yX5_nameValue, Cond.code yX5_nameValue cX5_nameValue 2 (some .int), Cond.fieldLink RX5 9 "PetrolBoard$Machine" "names" "[I", Cond.methodLink RX5 28 yX5_joined, Cond.static yX5_joined]
def wsX11_stays_r5 : List Cond := [Cond.code yX5_joined cX5_joined 5 (some .int), Cond.constantLong RX5 32 (-1000000000), Cond.constantLong RX5 34 (1000000000), Cond.methodLink RX5 36 Lib.MathLoose.min_long.x, Cond.static Lib.MathLoose.min_long.x, Cond.code Lib.MathLoose.min_long.x Lib.MathLoose.min_long.code 4 (some .long), Cond.methodLink RX5 40 Lib.MathLoose.max_long.x, Cond.static Lib.MathLoose.max_long.x, Cond.code Lib.MathLoose.max_long.x Lib.MathLoose.max_long.code 4 (some .long), Cond.methodLink RX6 67 yX7_dealt, Cond.instanceMethod yX7_dealt, Cond.selects RX7 yX7_dealt yX7_dealt, Cond.code yX7_dealt cX7_dealt 5 (some .int), Cond.fieldLink RX7 44 "PetrolBoard$Orders" "first" "[I", Cond.methodLink RX7 67 Lib.Math.min.name, Cond.static Lib.Math.min.name, Cond.code Lib.Math.min.name Lib.Math.min.code 2 (some .int), Cond.methodLink RX7 73 Lib.Math.max.name, Cond.methodLink RX11 380 yX1_put, Cond.instanceMethod yX1_put, Cond.selects RX1 yX1_put yX1_put, Cond.code yX1_put cX1_put 2 none, Cond.fieldLink RX1 9 "PetrolBoard$Deal" "units" "[I", Cond.methodLink RX11 381 yX1_alike]
def wsX11_stays_r6 : List Cond := [Cond.instanceMethod yX1_alike, Cond.selects RX1 yX1_alike yX1_alike, Cond.code yX1_alike cX1_alike 3 none, Cond.methodLink RX1 22 yX1_together, Cond.instanceMethod yX1_together, Cond.selects RX1 yX1_together yX1_together, Cond.code yX1_together cX1_together 3 (some .int), Cond.methodLink RX11 384 yX1_sell, Cond.instanceMethod yX1_sell, Cond.selects RX1 yX1_sell yX1_sell, Cond.code yX1_sell cX1_sell 5 none, Cond.fieldLink RX1 15 "PetrolBoard$Deal" "served" "[I", Cond.fieldLink RX1 36 "PetrolBoard$Holders" "need" "[I", Cond.methodLink RX1 41 Lib.Math.min.name, Cond.methodLink RX1 26 yJ7_fill_53178, Cond.static yJ7_fill_53178, Cond.initialized RJ7, Cond.code yJ7_fill_53178 cJ7_fill_53178 4 none, Cond.methodLink RX1 32 yX1_bestBidder, Cond.instanceMethod yX1_bestBidder, Cond.selects RX1 yX1_bestBidder yX1_bestBidder, Cond.code yX1_bestBidder cX1_bestBidder 4 (some .int), Cond.fieldLink RX1 51 "PetrolBoard$Holders" "bid" "[I", Cond.methodLink RX1 47 yX2_has]
def wsX11_stays_r7 : List Cond := [Cond.methodLink RX11 370 yX11_remains, Cond.instanceMethod yX11_remains, Cond.selects RX11 yX11_remains yX11_remains, Cond.code yX11_remains cX11_remains 2 (some .boolean), Cond.fieldLink RX11 374 "PetrolBoard$Holders" "need" "[I", Cond.methodLink RX11 96 yX2_has, Cond.methodLink RX11 368 yX1_unitsOf, Cond.instanceMethod yX1_unitsOf, Cond.selects RX1 yX1_unitsOf yX1_unitsOf, Cond.code yX1_unitsOf cX1_unitsOf 2 (some .int)]
def wsX11_stays : List Cond := .code yX11_stays cX11_stays 5 (some .int) :: ((wsX11_stays_r1 ++ (wsX11_stays_r2 ++ (wsX11_stays_r3 ++ (wsX11_stays_r4 ++ (wsX11_stays_r5 ++ (wsX11_stays_r6 ++ wsX11_stays_r7)))))) ++ wsX110 ++ wsX20 ++ wsX10 ++ wsX60 ++ wsX70 ++ wsX50)
def wsX11_unitsTogether_r1 : List Cond := [Cond.fieldLink RX11 16 "PetrolBoard" "holders" "LPetrolBoard$Holders;", Cond.fieldLink RX11 373 "PetrolBoard$Holders" "number" "I", Cond.fieldLink RX11 85 "PetrolBoard" "today" "I", Cond.fieldLink RX11 30 "PetrolBoard" "orderBook" "LPetrolBoard$OrderBook;", Cond.methodLink RX11 111 yX2_kindOn, Cond.instanceMethod yX2_kindOn, Cond.selects RX2 yX2_kindOn yX2_kindOn, Cond.initialized RX2, Cond.code yX2_kindOn cX2_kindOn 8 (some .int), Cond.fieldLink RX2 46 "PetrolBoard$Holders" "notes" "I", Cond.fieldLink RX2 27 "PetrolBoard$Holders" "noteOf" "[I", Cond.fieldLink RX2 33 "PetrolBoard$Holders" "from" "[I", Cond.fieldLink RX2 36 "PetrolBoard$Holders" "toldOn" "[I", Cond.fieldLink RX2 39 "PetrolBoard$Holders" "undoneOn" "[I", Cond.fieldLink RX2 30 "PetrolBoard$Holders" "kind" "[I", Cond.methodLink RX11 147 yX6_unitsOf, Cond.instanceMethod yX6_unitsOf, Cond.selects RX6 yX6_unitsOf yX6_unitsOf, Cond.initialized RX6, Cond.code yX6_unitsOf cX6_unitsOf 6 (some .int), Cond.fieldLink RX6 20 "PetrolBoard$OrderBook" "machine" "LPetrolBoard$Machine;", Cond.methodLink RX6 38 yX6_ordersOf, Cond.instanceMethod yX6_ordersOf, Cond.selects RX6 yX6_ordersOf yX6_ordersOf]
def wsX11_unitsTogether_r2 : List Cond := [Cond.code yX6_ordersOf cX6_ordersOf 4 (some (.object "PetrolBoard$Orders")), Cond.fieldLink RX6 11 "PetrolBoard$OrderBook" "told" "[LPetrolBoard$Orders;", Cond.methodLink RX6 34 yX6_inForce, Cond.instanceMethod yX6_inForce, Cond.selects RX6 yX6_inForce yX6_inForce, Cond.code yX6_inForce cX6_inForce 8 (some .int), Cond.fieldLink RX6 24 "PetrolBoard$OrderBook" "number" "I", Cond.fieldLink RX6 28 "PetrolBoard$Orders" "toldOn" "I", Cond.fieldLink RX6 31 "PetrolBoard$Orders" "month" "I", Cond.methodLink RX6 49 yX2_has, Cond.instanceMethod yX2_has, Cond.selects RX2 yX2_has yX2_has, Cond.code yX2_has cX2_has 2 (some .boolean), Cond.fieldLink RX2 42 "PetrolBoard$Holders" "number" "I", Cond.methodLink RX6 55 yX6_putHolder, Cond.instanceMethod yX6_putHolder, Cond.selects RX6 yX6_putHolder yX6_putHolder, Cond.code yX6_putHolder cX6_putHolder 5 none, Cond.fieldLink RX6 93 "PetrolBoard$Machine" "names" "[I", Cond.fieldLink RX6 100 "PetrolBoard$Holders" "size" "[I", Cond.fieldLink RX6 103 "PetrolBoard$Holders" "town" "[I", Cond.methodLink RX6 96 yX2_kindOn, Cond.methodLink RX6 59 yX6_putJourney, Cond.instanceMethod yX6_putJourney]
def wsX11_unitsTogether_r3 : List Cond := [Cond.selects RX6 yX6_putJourney yX6_putJourney, Cond.code yX6_putJourney cX6_putJourney 4 none, Cond.methodLink RX6 63 yX7_stops, Cond.instanceMethod yX7_stops, Cond.selects RX7 yX7_stops yX7_stops, Cond.initialized RX7, Cond.code yX7_stops cX7_stops 3 (some .boolean), Cond.fieldLink RX7 40 "PetrolBoard$Orders" "head" "[I", Cond.methodLink RX7 57 yX7_holds, Cond.instanceMethod yX7_holds, Cond.selects RX7 yX7_holds yX7_holds, Cond.code yX7_holds cX7_holds 3 (some .boolean), Cond.fieldLink RX7 48 "PetrolBoard$Orders" "second" "[I", Cond.fieldLink RX7 52 "PetrolBoard$Orders" "code" "[I", Cond.methodLink RX7 61 yX5_result, Cond.instanceMethod yX5_result, Cond.selects RX5 yX5_result yX5_result, Cond.initialized RX5, Cond.code yX5_result cX5_result 6 (some .int), Cond.methodLink RX5 18 Lib.Math.max.name, Cond.static Lib.Math.max.name, Cond.initialized "java/lang/Math", Cond.code Lib.Math.max.name Lib.Math.max.code 2 (some .int), Cond.fieldLink RX5 15 "PetrolBoard$Machine" "stack" "[I"]
def wsX11_unitsTogether_r4 : List Cond := [Cond.methodLink RX5 24 yX5_nameValue, Cond.instanceMethod yX5_nameValue, Cond.selects RX5 yX5_nameValue yX5_nameValue, Cond.code yX5_nameValue cX5_nameValue 2 (some .int), Cond.fieldLink RX5 9 "PetrolBoard$Machine" "names" "[I", Cond.methodLink RX5 28 yX5_joined, Cond.static yX5_joined, Cond.code yX5_joined cX5_joined 5 (some .int), Cond.constantLong RX5 32 (-1000000000), Cond.constantLong RX5 34 (1000000000), Cond.methodLink RX5 36 Lib.MathLoose.min_long.x, Cond.static Lib.MathLoose.min_long.x, Cond.code Lib.MathLoose.min_long.x Lib.MathLoose.min_long.code 4 (some .long), Cond.methodLink RX5 40 Lib.MathLoose.max_long.x, Cond.static Lib.MathLoose.max_long.x, Cond.code Lib.MathLoose.max_long.x Lib.MathLoose.max_long.code 4 (some .long), Cond.methodLink RX6 67 yX7_dealt, Cond.instanceMethod yX7_dealt, Cond.selects RX7 yX7_dealt yX7_dealt, Cond.code yX7_dealt cX7_dealt 5 (some .int), Cond.fieldLink RX7 44 "PetrolBoard$Orders" "first" "[I", Cond.methodLink RX7 67 Lib.Math.min.name, Cond.static Lib.Math.min.name, Cond.code Lib.Math.min.name Lib.Math.min.code 2 (some .int)]
def wsX11_unitsTogether_r5 : List Cond := [Cond.methodLink RX7 73 Lib.Math.max.name]
def wsX11_unitsTogether : List Cond := .code yX11_unitsTogether cX11_unitsTogether 5 (some .int) :: ((wsX11_unitsTogether_r1 ++ (wsX11_unitsTogether_r2 ++ (wsX11_unitsTogether_r3 ++ (wsX11_unitsTogether_r4 ++ wsX11_unitsTogether_r5)))) ++ wsX110 ++ wsX20 ++ wsX60 ++ wsX70 ++ wsX50)
def wsX11_foretold_r1 : List Cond := [Cond.fieldLink RX11 85 "PetrolBoard" "today" "I", Cond.constant RX11 241 (-2000000000), Cond.fieldLink RX11 30 "PetrolBoard" "orderBook" "LPetrolBoard$OrderBook;", Cond.constantLong RX11 392 (100), Cond.fieldLink RX11 61 "PetrolBoard" "loads" "LPetrolBoard$Loads;", Cond.constantLong RX11 398 (9), Cond.constantLong RX11 400 (10), Cond.constantLong RX11 402 (-1999999999), Cond.methodLink RX11 404 Lib.MathLoose.max_long.x, Cond.static Lib.MathLoose.max_long.x, Cond.initialized "java/lang/Math", Cond.code Lib.MathLoose.max_long.x Lib.MathLoose.max_long.code 4 (some .long), Cond.methodLink RX11 88 yX11_within, Cond.static yX11_within, Cond.initialized RX11, Cond.code yX11_within cX11_within 3 (some .boolean), Cond.methodLink RX11 144 yX6_amount, Cond.instanceMethod yX6_amount, Cond.selects RX6 yX6_amount yX6_amount, Cond.initialized RX6, Cond.code yX6_amount cX6_amount 5 (some .int), Cond.methodLink RX6 38 yX6_ordersOf, Cond.instanceMethod yX6_ordersOf, Cond.selects RX6 yX6_ordersOf yX6_ordersOf]
def wsX11_foretold_r2 : List Cond := [Cond.code yX6_ordersOf cX6_ordersOf 4 (some (.object "PetrolBoard$Orders")), Cond.fieldLink RX6 11 "PetrolBoard$OrderBook" "told" "[LPetrolBoard$Orders;", Cond.methodLink RX6 34 yX6_inForce, Cond.instanceMethod yX6_inForce, Cond.selects RX6 yX6_inForce yX6_inForce, Cond.code yX6_inForce cX6_inForce 8 (some .int), Cond.fieldLink RX6 24 "PetrolBoard$OrderBook" "number" "I", Cond.fieldLink RX6 28 "PetrolBoard$Orders" "toldOn" "I", Cond.fieldLink RX6 31 "PetrolBoard$Orders" "month" "I", Cond.static yX11_usual, Cond.code yX11_usual cX11_usual 1 (some .int), Cond.fieldLink RX11 426 "PetrolBoard" "USUAL" "[I", Cond.methodLink RX6 46 yX7_amount, Cond.instanceMethod yX7_amount, Cond.selects RX7 yX7_amount yX7_amount, Cond.initialized RX7, Cond.code yX7_amount cX7_amount 3 (some .int), Cond.fieldLink RX7 44 "PetrolBoard$Orders" "first" "[I", Cond.fieldLink RX7 40 "PetrolBoard$Orders" "head" "[I", Cond.methodLink RX11 388 yX11_unitsTogether, Cond.instanceMethod yX11_unitsTogether, Cond.selects RX11 yX11_unitsTogether yX11_unitsTogether, Cond.code yX11_unitsTogether cX11_unitsTogether 5 (some .int), Cond.fieldLink RX11 16 "PetrolBoard" "holders" "LPetrolBoard$Holders;"]
def wsX11_foretold_r3 : List Cond := [Cond.fieldLink RX11 373 "PetrolBoard$Holders" "number" "I", Cond.methodLink RX11 111 yX2_kindOn, Cond.instanceMethod yX2_kindOn, Cond.selects RX2 yX2_kindOn yX2_kindOn, Cond.initialized RX2, Cond.code yX2_kindOn cX2_kindOn 8 (some .int), Cond.fieldLink RX2 46 "PetrolBoard$Holders" "notes" "I", Cond.fieldLink RX2 27 "PetrolBoard$Holders" "noteOf" "[I", Cond.fieldLink RX2 33 "PetrolBoard$Holders" "from" "[I", Cond.fieldLink RX2 36 "PetrolBoard$Holders" "toldOn" "[I", Cond.fieldLink RX2 39 "PetrolBoard$Holders" "undoneOn" "[I", Cond.fieldLink RX2 30 "PetrolBoard$Holders" "kind" "[I", Cond.methodLink RX11 147 yX6_unitsOf, Cond.instanceMethod yX6_unitsOf, Cond.selects RX6 yX6_unitsOf yX6_unitsOf, Cond.code yX6_unitsOf cX6_unitsOf 6 (some .int), Cond.fieldLink RX6 20 "PetrolBoard$OrderBook" "machine" "LPetrolBoard$Machine;", Cond.methodLink RX6 49 yX2_has, Cond.instanceMethod yX2_has, Cond.selects RX2 yX2_has yX2_has, Cond.code yX2_has cX2_has 2 (some .boolean), Cond.fieldLink RX2 42 "PetrolBoard$Holders" "number" "I", Cond.methodLink RX6 55 yX6_putHolder, Cond.instanceMethod yX6_putHolder]
def wsX11_foretold_r4 : List Cond := [Cond.selects RX6 yX6_putHolder yX6_putHolder, Cond.code yX6_putHolder cX6_putHolder 5 none, Cond.fieldLink RX6 93 "PetrolBoard$Machine" "names" "[I", Cond.fieldLink RX6 100 "PetrolBoard$Holders" "size" "[I", Cond.fieldLink RX6 103 "PetrolBoard$Holders" "town" "[I", Cond.methodLink RX6 96 yX2_kindOn, Cond.methodLink RX6 59 yX6_putJourney, Cond.instanceMethod yX6_putJourney, Cond.selects RX6 yX6_putJourney yX6_putJourney, Cond.code yX6_putJourney cX6_putJourney 4 none, Cond.methodLink RX6 63 yX7_stops, Cond.instanceMethod yX7_stops, Cond.selects RX7 yX7_stops yX7_stops, Cond.code yX7_stops cX7_stops 3 (some .boolean), Cond.methodLink RX7 57 yX7_holds, Cond.instanceMethod yX7_holds, Cond.selects RX7 yX7_holds yX7_holds, Cond.code yX7_holds cX7_holds 3 (some .boolean), Cond.fieldLink RX7 48 "PetrolBoard$Orders" "second" "[I", Cond.fieldLink RX7 52 "PetrolBoard$Orders" "code" "[I", Cond.methodLink RX7 61 yX5_result, Cond.instanceMethod yX5_result, Cond.selects RX5 yX5_result yX5_result, Cond.initialized RX5]
def wsX11_foretold_r5 : List Cond := [Cond.code yX5_result cX5_result 6 (some .int), Cond.methodLink RX5 18 Lib.Math.max.name, Cond.static Lib.Math.max.name, Cond.code Lib.Math.max.name Lib.Math.max.code 2 (some .int), Cond.fieldLink RX5 15 "PetrolBoard$Machine" "stack" "[I", Cond.methodLink RX5 24 yX5_nameValue, Cond.instanceMethod yX5_nameValue, Cond.selects RX5 yX5_nameValue yX5_nameValue, Cond.code yX5_nameValue cX5_nameValue 2 (some .int), Cond.fieldLink RX5 9 "PetrolBoard$Machine" "names" "[I", Cond.methodLink RX5 28 yX5_joined, Cond.static yX5_joined, Cond.code yX5_joined cX5_joined 5 (some .int), Cond.constantLong RX5 32 (-1000000000), Cond.constantLong RX5 34 (1000000000), Cond.methodLink RX5 36 Lib.MathLoose.min_long.x, Cond.static Lib.MathLoose.min_long.x, Cond.code Lib.MathLoose.min_long.x Lib.MathLoose.min_long.code 4 (some .long), Cond.methodLink RX5 40 Lib.MathLoose.max_long.x, Cond.methodLink RX6 67 yX7_dealt, Cond.instanceMethod yX7_dealt, Cond.selects RX7 yX7_dealt yX7_dealt, Cond.code yX7_dealt cX7_dealt 5 (some .int), Cond.methodLink RX7 67 Lib.Math.min.name]
def wsX11_foretold_r6 : List Cond := [Cond.static Lib.Math.min.name, Cond.code Lib.Math.min.name Lib.Math.min.code 2 (some .int), Cond.methodLink RX7 73 Lib.Math.max.name, Cond.methodLink RX11 394 yX4_inPorts, Cond.instanceMethod yX4_inPorts, Cond.selects RX4 yX4_inPorts yX4_inPorts, Cond.initialized RX4, Cond.code yX4_inPorts cX4_inPorts 3 (some .int), Cond.fieldLink RX4 44 "PetrolBoard$Loads" "ports" "I", Cond.fieldLink RX4 9 "PetrolBoard$Loads" "inPort" "[I"]
def wsX11_foretold : List Cond := .code yX11_foretold cX11_foretold 8 (some .int) :: ((wsX11_foretold_r1 ++ (wsX11_foretold_r2 ++ (wsX11_foretold_r3 ++ (wsX11_foretold_r4 ++ (wsX11_foretold_r5 ++ wsX11_foretold_r6))))) ++ wsX110 ++ wsX60 ++ wsX70 ++ wsX20 ++ wsX50 ++ wsX40)
def wsX11_count_r1 : List Cond := [Cond.fieldLink RX11 85 "PetrolBoard" "today" "I", Cond.fieldLink RX11 16 "PetrolBoard" "holders" "LPetrolBoard$Holders;", Cond.fieldLink RX11 373 "PetrolBoard$Holders" "number" "I", Cond.fieldLink RX11 407 "PetrolBoard$Holders" "notes" "I", Cond.fieldLink RX11 30 "PetrolBoard" "orderBook" "LPetrolBoard$OrderBook;", Cond.fieldLink RX11 125 "PetrolBoard$OrderBook" "number" "I", Cond.fieldLink RX11 37 "PetrolBoard" "coupons" "LPetrolBoard$Coupons;", Cond.fieldLink RX11 410 "PetrolBoard$Coupons" "books" "I", Cond.fieldLink RX11 178 "PetrolBoard" "stationNumber" "I", Cond.fieldLink RX11 44 "PetrolBoard" "pours" "LPetrolBoard$Pours;", Cond.fieldLink RX11 201 "PetrolBoard$Pours" "number" "I", Cond.fieldLink RX11 419 "PetrolBoard$Coupons" "lentNumber" "I", Cond.fieldLink RX11 61 "PetrolBoard" "loads" "LPetrolBoard$Loads;", Cond.fieldLink RX11 422 "PetrolBoard$Loads" "ports" "I", Cond.fieldLink RX11 68 "PetrolBoard" "journeys" "LPetrolBoard$Journeys;", Cond.fieldLink RX11 425 "PetrolBoard$Journeys" "number" "I", Cond.fieldLink RX11 23 "PetrolBoard" "reader" "LPetrolBoard$Reader;", Cond.fieldLink RX11 115 "PetrolBoard$Reader" "taped" "I", Cond.methodLink RX11 413 yX8_judgedGood, Cond.instanceMethod yX8_judgedGood, Cond.selects RX8 yX8_judgedGood yX8_judgedGood, Cond.initialized RX8, Cond.code yX8_judgedGood cX8_judgedGood 3 (some .int), Cond.fieldLink RX8 36 "PetrolBoard$Pours" "number" "I"]
def wsX11_count_r2 : List Cond := [Cond.fieldLink RX8 27 "PetrolBoard$Pours" "verdict" "[I", Cond.methodLink RX11 416 yX8_judgedOtherwise, Cond.instanceMethod yX8_judgedOtherwise, Cond.selects RX8 yX8_judgedOtherwise yX8_judgedOtherwise, Cond.code yX8_judgedOtherwise cX8_judgedOtherwise 3 (some .int)]
def wsX11_count : List Cond := .code yX11_count cX11_count 2 (some .int) :: ((wsX11_count_r1 ++ wsX11_count_r2) ++ wsX110 ++ wsX20 ++ wsX60 ++ wsX00 ++ wsX80 ++ wsX40 ++ wsX30 ++ wsX90)
def wsX12_init_r1 : List Cond := [Cond.methodLink RX12 1 objectInit, Cond.instanceMethod objectInit, Cond.code objectInit ⟨#[0xb1]⟩ 1 none, Cond.arrayClass .int, Cond.fieldLink RX12 7 "PetrolBoardModel" "sizeOf" "[I", Cond.fieldLink RX12 13 "PetrolBoardModel" "townOf" "[I", Cond.fieldLink RX12 16 "PetrolBoardModel" "seatsOf" "[I", Cond.fieldLink RX12 19 "PetrolBoardModel" "bidOf" "[I", Cond.fieldLink RX12 22 "PetrolBoardModel" "needOf" "[I", Cond.fieldLink RX12 25 "PetrolBoardModel" "noteWho" "[I", Cond.fieldLink RX12 28 "PetrolBoardModel" "noteClass" "[I", Cond.fieldLink RX12 31 "PetrolBoardModel" "noteFrom" "[I", Cond.fieldLink RX12 34 "PetrolBoardModel" "noteTold" "[I", Cond.fieldLink RX12 37 "PetrolBoardModel" "noteGone" "[I", Cond.fieldLink RX12 40 "PetrolBoardModel" "textFirst" "[I", Cond.fieldLink RX12 43 "PetrolBoardModel" "textMany" "[I", Cond.fieldLink RX12 46 "PetrolBoardModel" "textMonth" "[I", Cond.fieldLink RX12 49 "PetrolBoardModel" "textTold" "[I", Cond.fieldLink RX12 52 "PetrolBoardModel" "stRule" "[I", Cond.fieldLink RX12 55 "PetrolBoardModel" "stNumber" "[I", Cond.fieldLink RX12 58 "PetrolBoardModel" "stEx" "[I", Cond.fieldLink RX12 61 "PetrolBoardModel" "stCond" "[I", Cond.fieldLink RX12 64 "PetrolBoardModel" "stFrom" "[I", Cond.fieldLink RX12 67 "PetrolBoardModel" "stTo" "[I"]
def wsX12_init_r2 : List Cond := [Cond.fieldLink RX12 70 "PetrolBoardModel" "nodeKind" "[I", Cond.fieldLink RX12 73 "PetrolBoardModel" "nodeA" "[I", Cond.fieldLink RX12 76 "PetrolBoardModel" "nodeB" "[I", Cond.arrayClass .long, Cond.fieldLink RX12 79 "PetrolBoardModel" "result" "[J", Cond.arrayClass .byte, Cond.fieldLink RX12 83 "PetrolBoardModel" "tape" "[B", Cond.fieldLink RX12 87 "PetrolBoardModel" "faultAt" "I", Cond.fieldLink RX12 91 "PetrolBoardModel" "what" "[I", Cond.fieldLink RX12 94 "PetrolBoardModel" "at" "[I", Cond.fieldLink RX12 97 "PetrolBoardModel" "one" "[I", Cond.fieldLink RX12 100 "PetrolBoardModel" "sort" "[I", Cond.fieldLink RX12 103 "PetrolBoardModel" "asks" "[J", Cond.fieldLink RX12 106 "PetrolBoardModel" "issued" "[I", Cond.constant RX12 109 (72000), Cond.fieldLink RX12 110 "PetrolBoardModel" "lentTo" "[I", Cond.constant RX12 113 (100000), Cond.arrayClass .boolean, Cond.fieldLink RX12 114 "PetrolBoardModel" "wasIn" "[Z", Cond.fieldLink RX12 118 "PetrolBoardModel" "pourAt" "[I", Cond.fieldLink RX12 121 "PetrolBoardModel" "pourWho" "[I", Cond.fieldLink RX12 124 "PetrolBoardModel" "pourCoupon" "[I", Cond.fieldLink RX12 127 "PetrolBoardModel" "pourDay" "[I", Cond.fieldLink RX12 130 "PetrolBoardModel" "pourTenths" "[I"]
def wsX12_init_r3 : List Cond := [Cond.fieldLink RX12 133 "PetrolBoardModel" "pourOwner" "[I", Cond.fieldLink RX12 136 "PetrolBoardModel" "pourJudged" "[I", Cond.fieldLink RX12 139 "PetrolBoardModel" "pourCome" "[I", Cond.fieldLink RX12 142 "PetrolBoardModel" "pourDyed" "[Z", Cond.fieldLink RX12 145 "PetrolBoardModel" "givenMany" "[I", Cond.fieldLink RX12 148 "PetrolBoardModel" "givenSum" "[I", Cond.fieldLink RX12 151 "PetrolBoardModel" "given" "[I", Cond.fieldLink RX12 154 "PetrolBoardModel" "givenCome" "[I", Cond.fieldLink RX12 157 "PetrolBoardModel" "dipMany" "[I", Cond.fieldLink RX12 160 "PetrolBoardModel" "dipTold" "[I", Cond.fieldLink RX12 163 "PetrolBoardModel" "dipDay" "[I", Cond.fieldLink RX12 166 "PetrolBoardModel" "dipCome" "[I", Cond.fieldLink RX12 169 "PetrolBoardModel" "levels" "[I", Cond.fieldLink RX12 172 "PetrolBoardModel" "loadsOf" "[I", Cond.fieldLink RX12 175 "PetrolBoardModel" "wantOf" "[I", Cond.fieldLink RX12 178 "PetrolBoardModel" "roadOf" "[I", Cond.fieldLink RX12 181 "PetrolBoardModel" "room" "[I", Cond.fieldLink RX12 184 "PetrolBoardModel" "miles" "[I", Cond.fieldLink RX12 187 "PetrolBoardModel" "far" "[I", Cond.fieldLink RX12 190 "PetrolBoardModel" "back" "[I", Cond.fieldLink RX12 193 "PetrolBoardModel" "jWho" "[I", Cond.fieldLink RX12 196 "PetrolBoardModel" "jMiles" "[I", Cond.fieldLink RX12 199 "PetrolBoardModel" "jPeople" "[I", Cond.fieldLink RX12 202 "PetrolBoardModel" "jReason" "[I"]
def wsX12_init_r4 : List Cond := [Cond.fieldLink RX12 205 "PetrolBoardModel" "jDay" "[I", Cond.fieldLink RX12 208 "PetrolBoardModel" "jWay" "[I", Cond.fieldLink RX12 211 "PetrolBoardModel" "jAsked" "[I", Cond.fieldLink RX12 214 "PetrolBoardModel" "jGranted" "[I", Cond.fieldLink RX12 217 "PetrolBoardModel" "jFirst" "[I", Cond.fieldLink RX12 220 "PetrolBoardModel" "pool" "[I", Cond.fieldLink RX12 223 "PetrolBoardModel" "deal" "[I", Cond.fieldLink RX12 226 "PetrolBoardModel" "isDealt" "[Z"]
def wsX12_init : List Cond := .code yX12_init cX12_init 1 none :: ((wsX12_init_r1 ++ (wsX12_init_r2 ++ (wsX12_init_r3 ++ wsX12_init_r4))) ++ wsX120)
def wsX12_within : List Cond := .code yX12_within cX12_within 3 (some .boolean) :: ([])
def wsX12_abs : List Cond := .code yX12_abs cX12_abs 1 (some .int) :: ([])
def wsX12_min : List Cond := .code yX12_min cX12_min 2 (some .int) :: ([])
def wsX12_isDay : List Cond := .code yX12_isDay cX12_isDay 1 (some .boolean) :: ([])
def wsX12_isMonth : List Cond := .code yX12_isMonth cX12_isMonth 1 (some .boolean) :: ([])
def wsX12_isHolder : List Cond := .code yX12_isHolder cX12_isHolder 2 (some .boolean) :: ([.fieldLink RX12 229 "PetrolBoardModel" "holders" "I"] ++ wsX120)
def wsX12_day : List Cond := .code yX12_day cX12_day 2 (some .boolean) :: ([.fieldLink RX12 232 "PetrolBoardModel" "today" "I"] ++ wsX120)
def wsX12_holder : List Cond := .code yX12_holder cX12_holder 6 (some .int) :: ([.fieldLink RX12 229 "PetrolBoardModel" "holders" "I", .fieldLink RX12 7 "PetrolBoardModel" "sizeOf" "[I", .fieldLink RX12 13 "PetrolBoardModel" "townOf" "[I", .fieldLink RX12 16 "PetrolBoardModel" "seatsOf" "[I", .fieldLink RX12 19 "PetrolBoardModel" "bidOf" "[I", .fieldLink RX12 22 "PetrolBoardModel" "needOf" "[I", .methodLink RX12 235 yX12_within, .static yX12_within, .initialized RX12, .code yX12_within cX12_within 3 (some .boolean)] ++ wsX120)
def wsX12_note : List Cond := .code yX12_note cX12_note 4 (some .int) :: ([.fieldLink RX12 246 "PetrolBoardModel" "notes" "I", .fieldLink RX12 25 "PetrolBoardModel" "noteWho" "[I", .fieldLink RX12 28 "PetrolBoardModel" "noteClass" "[I", .fieldLink RX12 31 "PetrolBoardModel" "noteFrom" "[I", .fieldLink RX12 34 "PetrolBoardModel" "noteTold" "[I", .fieldLink RX12 232 "PetrolBoardModel" "today" "I", .fieldLink RX12 37 "PetrolBoardModel" "noteGone" "[I", .methodLink RX12 239 yX12_isHolder, .instanceMethod yX12_isHolder, .selects RX12 yX12_isHolder yX12_isHolder, .initialized RX12, .code yX12_isHolder cX12_isHolder 2 (some .boolean), .fieldLink RX12 229 "PetrolBoardModel" "holders" "I", .methodLink RX12 235 yX12_within, .static yX12_within, .code yX12_within cX12_within 3 (some .boolean), .methodLink RX12 243 yX12_isDay, .static yX12_isDay, .code yX12_isDay cX12_isDay 1 (some .boolean)] ++ wsX120)
def wsX12_undo : List Cond := .code yX12_undo cX12_undo 2 (some .boolean) :: ([.fieldLink RX12 246 "PetrolBoardModel" "notes" "I", .fieldLink RX12 37 "PetrolBoardModel" "noteGone" "[I", .fieldLink RX12 232 "PetrolBoardModel" "today" "I"] ++ wsX120)
def wsX12_kindOn : List Cond := .code yX12_kindOn cX12_kindOn 6 (some .int) :: ([.fieldLink RX12 246 "PetrolBoardModel" "notes" "I", .fieldLink RX12 25 "PetrolBoardModel" "noteWho" "[I", .fieldLink RX12 31 "PetrolBoardModel" "noteFrom" "[I", .fieldLink RX12 34 "PetrolBoardModel" "noteTold" "[I", .fieldLink RX12 37 "PetrolBoardModel" "noteGone" "[I", .fieldLink RX12 28 "PetrolBoardModel" "noteClass" "[I"] ++ wsX120)
def wsX12_classOf : List Cond := .code yX12_classOf cX12_classOf 4 (some .int) :: ([.methodLink RX12 239 yX12_isHolder, .instanceMethod yX12_isHolder, .selects RX12 yX12_isHolder yX12_isHolder, .initialized RX12, .code yX12_isHolder cX12_isHolder 2 (some .boolean), .fieldLink RX12 229 "PetrolBoardModel" "holders" "I", .methodLink RX12 243 yX12_isDay, .static yX12_isDay, .code yX12_isDay cX12_isDay 1 (some .boolean), .methodLink RX12 249 yX12_kindOn, .instanceMethod yX12_kindOn, .selects RX12 yX12_kindOn yX12_kindOn, .code yX12_kindOn cX12_kindOn 6 (some .int), .fieldLink RX12 246 "PetrolBoardModel" "notes" "I", .fieldLink RX12 25 "PetrolBoardModel" "noteWho" "[I", .fieldLink RX12 31 "PetrolBoardModel" "noteFrom" "[I", .fieldLink RX12 34 "PetrolBoardModel" "noteTold" "[I", .fieldLink RX12 37 "PetrolBoardModel" "noteGone" "[I", .fieldLink RX12 28 "PetrolBoardModel" "noteClass" "[I"] ++ wsX120)
def wsX12_feed : List Cond := .code yX12_feed cX12_feed 8 (some .int) :: ([.fieldLink RX12 253 "PetrolBoardModel" "taped" "I", .fieldLink RX12 83 "PetrolBoardModel" "tape" "[B"] ++ wsX120)
def wsX12_here : List Cond := .code yX12_here cX12_here 1 (some .int) :: ([.fieldLink RX12 256 "PetrolBoardModel" "point" "I", .fieldLink RX12 259 "PetrolBoardModel" "limit" "I", .fieldLink RX12 83 "PetrolBoardModel" "tape" "[B"] ++ wsX120)
def wsX12_isSignByte : List Cond := .code yX12_isSignByte cX12_isSignByte 1 (some .boolean) :: ([])
def wsX12_next_r1 : List Cond := [Cond.fieldLink RX12 256 "PetrolBoardModel" "point" "I", Cond.fieldLink RX12 266 "PetrolBoardModel" "from" "I", Cond.constantLong RX12 269 (-1), Cond.fieldLink RX12 271 "PetrolBoardModel" "word" "J", Cond.fieldLink RX12 275 "PetrolBoardModel" "sign" "I", Cond.fieldLink RX12 278 "PetrolBoardModel" "value" "I", Cond.fieldLink RX12 281 "PetrolBoardModel" "token" "I", Cond.constantLong RX12 284 (27), Cond.constant RX12 286 (10000000), Cond.methodLink RX12 262 yX12_here, Cond.instanceMethod yX12_here, Cond.selects RX12 yX12_here yX12_here, Cond.initialized RX12, Cond.code yX12_here cX12_here 1 (some .int), Cond.fieldLink RX12 259 "PetrolBoardModel" "limit" "I", Cond.fieldLink RX12 83 "PetrolBoardModel" "tape" "[B", Cond.methodLink RX12 235 yX12_within, Cond.static yX12_within, Cond.code yX12_within cX12_within 3 (some .boolean), Cond.methodLink RX12 287 yX12_min, Cond.static yX12_min, Cond.code yX12_min cX12_min 2 (some .int), Cond.methodLink RX12 291 yX12_isSignByte, Cond.static yX12_isSignByte]
def wsX12_next_r2 : List Cond := [Cond.code yX12_isSignByte cX12_isSignByte 1 (some .boolean)]
def wsX12_next : List Cond := .code yX12_next cX12_next 2 none :: ((wsX12_next_r1 ++ wsX12_next_r2) ++ wsX120)
def wsX12_errs : List Cond := .code yX12_errs cX12_errs 1 none :: ([.fieldLink RX12 294 "PetrolBoardModel" "isWrong" "Z", .fieldLink RX12 266 "PetrolBoardModel" "from" "I", .fieldLink RX12 87 "PetrolBoardModel" "faultAt" "I"] ++ wsX120)
def wsX12_isWord : List Cond := .code yX12_isWord cX12_isWord 3 (some .boolean) :: ([.fieldLink RX12 281 "PetrolBoardModel" "token" "I", .fieldLink RX12 271 "PetrolBoardModel" "word" "J"] ++ wsX120)
def wsX12_isSign : List Cond := .code yX12_isSign cX12_isSign 2 (some .boolean) :: ([.fieldLink RX12 281 "PetrolBoardModel" "token" "I", .fieldLink RX12 275 "PetrolBoardModel" "sign" "I"] ++ wsX120)
def wsX12_must_r1 : List Cond := [Cond.methodLink RX12 298 yX12_isSign, Cond.instanceMethod yX12_isSign, Cond.selects RX12 yX12_isSign yX12_isSign, Cond.initialized RX12, Cond.code yX12_isSign cX12_isSign 2 (some .boolean), Cond.fieldLink RX12 281 "PetrolBoardModel" "token" "I", Cond.fieldLink RX12 275 "PetrolBoardModel" "sign" "I", Cond.methodLink RX12 301 yX12_next, Cond.instanceMethod yX12_next, Cond.selects RX12 yX12_next yX12_next, Cond.code yX12_next cX12_next 2 none, Cond.fieldLink RX12 256 "PetrolBoardModel" "point" "I", Cond.fieldLink RX12 266 "PetrolBoardModel" "from" "I", Cond.constantLong RX12 269 (-1), Cond.fieldLink RX12 271 "PetrolBoardModel" "word" "J", Cond.fieldLink RX12 278 "PetrolBoardModel" "value" "I", Cond.constantLong RX12 284 (27), Cond.constant RX12 286 (10000000), Cond.methodLink RX12 262 yX12_here, Cond.instanceMethod yX12_here, Cond.selects RX12 yX12_here yX12_here, Cond.code yX12_here cX12_here 1 (some .int), Cond.fieldLink RX12 259 "PetrolBoardModel" "limit" "I", Cond.fieldLink RX12 83 "PetrolBoardModel" "tape" "[B"]
def wsX12_must_r2 : List Cond := [Cond.methodLink RX12 235 yX12_within, Cond.static yX12_within, Cond.code yX12_within cX12_within 3 (some .boolean), Cond.methodLink RX12 287 yX12_min, Cond.static yX12_min, Cond.code yX12_min cX12_min 2 (some .int), Cond.methodLink RX12 291 yX12_isSignByte, Cond.static yX12_isSignByte, Cond.code yX12_isSignByte cX12_isSignByte 1 (some .boolean), Cond.methodLink RX12 304 yX12_errs, Cond.instanceMethod yX12_errs, Cond.selects RX12 yX12_errs yX12_errs, Cond.code yX12_errs cX12_errs 1 none, Cond.fieldLink RX12 294 "PetrolBoardModel" "isWrong" "Z", Cond.fieldLink RX12 87 "PetrolBoardModel" "faultAt" "I"]
def wsX12_must : List Cond := .code yX12_must cX12_must 2 none :: ((wsX12_must_r1 ++ wsX12_must_r2) ++ wsX120)
def wsX12_ruleOf : List Cond := .code yX12_ruleOf cX12_ruleOf 3 (some .int) :: ([.constantLong RX12 307 (11442943), .constantLong RX12 309 (407041), .constantLong RX12 311 (388978), .constantLong RX12 313 (12532058), .constantLong RX12 315 (6409157), .constantLong RX12 317 (240223), .constantLong RX12 319 (12257222), .constantLong RX12 321 (2436392)])
def wsX12_nameOf : List Cond := .code yX12_nameOf cX12_nameOf 3 (some .int) :: ([.constantLong RX12 323 (1831780), .constantLong RX12 325 (381245), .constantLong RX12 327 (405230), .constantLong RX12 329 (7214732), .constantLong RX12 331 (7094782), .constantLong RX12 333 (232546955), .constantLong RX12 335 (260971484)])
def wsX12_node : List Cond := .code yX12_node cX12_node 4 (some .int) :: ([.fieldLink RX12 70 "PetrolBoardModel" "nodeKind" "[I", .fieldLink RX12 337 "PetrolBoardModel" "nodes" "I", .fieldLink RX12 73 "PetrolBoardModel" "nodeA" "[I", .fieldLink RX12 76 "PetrolBoardModel" "nodeB" "[I"] ++ wsX120)
def wsX12_begin : List Cond := .code yX12_begin cX12_begin 2 none :: ([.fieldLink RX12 91 "PetrolBoardModel" "what" "[I", .fieldLink RX12 340 "PetrolBoardModel" "deep" "I", .fieldLink RX12 94 "PetrolBoardModel" "at" "[I", .fieldLink RX12 97 "PetrolBoardModel" "one" "[I", .fieldLink RX12 100 "PetrolBoardModel" "sort" "[I"] ++ wsX120)
def wsX12_ends : List Cond := .code yX12_ends cX12_ends 2 none :: ([.fieldLink RX12 343 "PetrolBoardModel" "got" "I", .fieldLink RX12 340 "PetrolBoardModel" "deep" "I"] ++ wsX120)
def wsX12_opens_r1 : List Cond := [Cond.fieldLink RX12 346 "PetrolBoardModel" "open" "I", Cond.methodLink RX12 304 yX12_errs, Cond.instanceMethod yX12_errs, Cond.selects RX12 yX12_errs yX12_errs, Cond.initialized RX12, Cond.code yX12_errs cX12_errs 1 none, Cond.fieldLink RX12 294 "PetrolBoardModel" "isWrong" "Z", Cond.fieldLink RX12 266 "PetrolBoardModel" "from" "I", Cond.fieldLink RX12 87 "PetrolBoardModel" "faultAt" "I", Cond.methodLink RX12 301 yX12_next, Cond.instanceMethod yX12_next, Cond.selects RX12 yX12_next yX12_next, Cond.code yX12_next cX12_next 2 none, Cond.fieldLink RX12 256 "PetrolBoardModel" "point" "I", Cond.constantLong RX12 269 (-1), Cond.fieldLink RX12 271 "PetrolBoardModel" "word" "J", Cond.fieldLink RX12 275 "PetrolBoardModel" "sign" "I", Cond.fieldLink RX12 278 "PetrolBoardModel" "value" "I", Cond.fieldLink RX12 281 "PetrolBoardModel" "token" "I", Cond.constantLong RX12 284 (27), Cond.constant RX12 286 (10000000), Cond.methodLink RX12 262 yX12_here, Cond.instanceMethod yX12_here, Cond.selects RX12 yX12_here yX12_here]
def wsX12_opens_r2 : List Cond := [Cond.code yX12_here cX12_here 1 (some .int), Cond.fieldLink RX12 259 "PetrolBoardModel" "limit" "I", Cond.fieldLink RX12 83 "PetrolBoardModel" "tape" "[B", Cond.methodLink RX12 235 yX12_within, Cond.static yX12_within, Cond.code yX12_within cX12_within 3 (some .boolean), Cond.methodLink RX12 287 yX12_min, Cond.static yX12_min, Cond.code yX12_min cX12_min 2 (some .int), Cond.methodLink RX12 291 yX12_isSignByte, Cond.static yX12_isSignByte, Cond.code yX12_isSignByte cX12_isSignByte 1 (some .boolean)]
def wsX12_opens : List Cond := .code yX12_opens cX12_opens 1 none :: ((wsX12_opens_r1 ++ wsX12_opens_r2) ++ wsX120)
def wsX12_sums_r1 : List Cond := [Cond.fieldLink RX12 94 "PetrolBoardModel" "at" "[I", Cond.fieldLink RX12 97 "PetrolBoardModel" "one" "[I", Cond.fieldLink RX12 343 "PetrolBoardModel" "got" "I", Cond.fieldLink RX12 100 "PetrolBoardModel" "sort" "[I", Cond.methodLink RX12 349 yX12_begin, Cond.instanceMethod yX12_begin, Cond.selects RX12 yX12_begin yX12_begin, Cond.initialized RX12, Cond.code yX12_begin cX12_begin 2 none, Cond.fieldLink RX12 91 "PetrolBoardModel" "what" "[I", Cond.fieldLink RX12 340 "PetrolBoardModel" "deep" "I", Cond.methodLink RX12 366 yX12_node, Cond.instanceMethod yX12_node, Cond.selects RX12 yX12_node yX12_node, Cond.code yX12_node cX12_node 4 (some .int), Cond.fieldLink RX12 70 "PetrolBoardModel" "nodeKind" "[I", Cond.fieldLink RX12 337 "PetrolBoardModel" "nodes" "I", Cond.fieldLink RX12 73 "PetrolBoardModel" "nodeA" "[I", Cond.fieldLink RX12 76 "PetrolBoardModel" "nodeB" "[I", Cond.methodLink RX12 298 yX12_isSign, Cond.instanceMethod yX12_isSign, Cond.selects RX12 yX12_isSign yX12_isSign, Cond.code yX12_isSign cX12_isSign 2 (some .boolean), Cond.fieldLink RX12 281 "PetrolBoardModel" "token" "I"]
def wsX12_sums_r2 : List Cond := [Cond.fieldLink RX12 275 "PetrolBoardModel" "sign" "I", Cond.methodLink RX12 301 yX12_next, Cond.instanceMethod yX12_next, Cond.selects RX12 yX12_next yX12_next, Cond.code yX12_next cX12_next 2 none, Cond.fieldLink RX12 256 "PetrolBoardModel" "point" "I", Cond.fieldLink RX12 266 "PetrolBoardModel" "from" "I", Cond.constantLong RX12 269 (-1), Cond.fieldLink RX12 271 "PetrolBoardModel" "word" "J", Cond.fieldLink RX12 278 "PetrolBoardModel" "value" "I", Cond.constantLong RX12 284 (27), Cond.constant RX12 286 (10000000), Cond.methodLink RX12 262 yX12_here, Cond.instanceMethod yX12_here, Cond.selects RX12 yX12_here yX12_here, Cond.code yX12_here cX12_here 1 (some .int), Cond.fieldLink RX12 259 "PetrolBoardModel" "limit" "I", Cond.fieldLink RX12 83 "PetrolBoardModel" "tape" "[B", Cond.methodLink RX12 235 yX12_within, Cond.static yX12_within, Cond.code yX12_within cX12_within 3 (some .boolean), Cond.methodLink RX12 287 yX12_min, Cond.static yX12_min, Cond.code yX12_min cX12_min 2 (some .int)]
def wsX12_sums_r3 : List Cond := [Cond.methodLink RX12 291 yX12_isSignByte, Cond.static yX12_isSignByte, Cond.code yX12_isSignByte cX12_isSignByte 1 (some .boolean), Cond.methodLink RX12 369 yX12_ends, Cond.instanceMethod yX12_ends, Cond.selects RX12 yX12_ends yX12_ends, Cond.code yX12_ends cX12_ends 2 none]
def wsX12_sums : List Cond := .code yX12_sums cX12_sums 4 none :: ((wsX12_sums_r1 ++ (wsX12_sums_r2 ++ wsX12_sums_r3)) ++ wsX120)
def wsX12_atom_r1 : List Cond := [Cond.fieldLink RX12 94 "PetrolBoardModel" "at" "[I", Cond.fieldLink RX12 281 "PetrolBoardModel" "token" "I", Cond.fieldLink RX12 278 "PetrolBoardModel" "value" "I", Cond.constantLong RX12 375 (6476969), Cond.constantLong RX12 381 (267347), Cond.fieldLink RX12 100 "PetrolBoardModel" "sort" "[I", Cond.fieldLink RX12 294 "PetrolBoardModel" "isWrong" "Z", Cond.fieldLink RX12 271 "PetrolBoardModel" "word" "J", Cond.fieldLink RX12 97 "PetrolBoardModel" "one" "[I", Cond.fieldLink RX12 343 "PetrolBoardModel" "got" "I", Cond.fieldLink RX12 346 "PetrolBoardModel" "open" "I", Cond.methodLink RX12 301 yX12_next, Cond.instanceMethod yX12_next, Cond.selects RX12 yX12_next yX12_next, Cond.initialized RX12, Cond.code yX12_next cX12_next 2 none, Cond.fieldLink RX12 256 "PetrolBoardModel" "point" "I", Cond.fieldLink RX12 266 "PetrolBoardModel" "from" "I", Cond.constantLong RX12 269 (-1), Cond.fieldLink RX12 275 "PetrolBoardModel" "sign" "I", Cond.constantLong RX12 284 (27), Cond.constant RX12 286 (10000000), Cond.methodLink RX12 262 yX12_here, Cond.instanceMethod yX12_here]
def wsX12_atom_r2 : List Cond := [Cond.selects RX12 yX12_here yX12_here, Cond.code yX12_here cX12_here 1 (some .int), Cond.fieldLink RX12 259 "PetrolBoardModel" "limit" "I", Cond.fieldLink RX12 83 "PetrolBoardModel" "tape" "[B", Cond.methodLink RX12 235 yX12_within, Cond.static yX12_within, Cond.code yX12_within cX12_within 3 (some .boolean), Cond.methodLink RX12 287 yX12_min, Cond.static yX12_min, Cond.code yX12_min cX12_min 2 (some .int), Cond.methodLink RX12 291 yX12_isSignByte, Cond.static yX12_isSignByte, Cond.code yX12_isSignByte cX12_isSignByte 1 (some .boolean), Cond.methodLink RX12 366 yX12_node, Cond.instanceMethod yX12_node, Cond.selects RX12 yX12_node yX12_node, Cond.code yX12_node cX12_node 4 (some .int), Cond.fieldLink RX12 70 "PetrolBoardModel" "nodeKind" "[I", Cond.fieldLink RX12 337 "PetrolBoardModel" "nodes" "I", Cond.fieldLink RX12 73 "PetrolBoardModel" "nodeA" "[I", Cond.fieldLink RX12 76 "PetrolBoardModel" "nodeB" "[I", Cond.methodLink RX12 369 yX12_ends, Cond.instanceMethod yX12_ends, Cond.selects RX12 yX12_ends yX12_ends]
def wsX12_atom_r3 : List Cond := [Cond.code yX12_ends cX12_ends 2 none, Cond.fieldLink RX12 340 "PetrolBoardModel" "deep" "I", Cond.methodLink RX12 298 yX12_isSign, Cond.instanceMethod yX12_isSign, Cond.selects RX12 yX12_isSign yX12_isSign, Cond.code yX12_isSign cX12_isSign 2 (some .boolean), Cond.methodLink RX12 372 yX12_opens, Cond.instanceMethod yX12_opens, Cond.selects RX12 yX12_opens yX12_opens, Cond.code yX12_opens cX12_opens 1 none, Cond.methodLink RX12 304 yX12_errs, Cond.instanceMethod yX12_errs, Cond.selects RX12 yX12_errs yX12_errs, Cond.code yX12_errs cX12_errs 1 none, Cond.fieldLink RX12 87 "PetrolBoardModel" "faultAt" "I", Cond.methodLink RX12 349 yX12_begin, Cond.instanceMethod yX12_begin, Cond.selects RX12 yX12_begin yX12_begin, Cond.code yX12_begin cX12_begin 2 none, Cond.fieldLink RX12 91 "PetrolBoardModel" "what" "[I", Cond.methodLink RX12 377 yX12_isWord, Cond.instanceMethod yX12_isWord, Cond.selects RX12 yX12_isWord yX12_isWord, Cond.code yX12_isWord cX12_isWord 3 (some .boolean)]
def wsX12_atom_r4 : List Cond := [Cond.methodLink RX12 383 yX12_must, Cond.instanceMethod yX12_must, Cond.selects RX12 yX12_must yX12_must, Cond.code yX12_must cX12_must 2 none, Cond.methodLink RX12 386 yX12_nameOf, Cond.instanceMethod yX12_nameOf, Cond.selects RX12 yX12_nameOf yX12_nameOf, Cond.code yX12_nameOf cX12_nameOf 3 (some .int), Cond.constantLong RX12 323 (1831780), Cond.constantLong RX12 325 (381245), Cond.constantLong RX12 327 (405230), Cond.constantLong RX12 329 (7214732), Cond.constantLong RX12 331 (7094782), Cond.constantLong RX12 333 (232546955), Cond.constantLong RX12 335 (260971484)]
def wsX12_atom : List Cond := .code yX12_atom cX12_atom 3 none :: ((wsX12_atom_r1 ++ (wsX12_atom_r2 ++ (wsX12_atom_r3 ++ wsX12_atom_r4))) ++ wsX120)
def wsX12_chain_r1 : List Cond := [Cond.fieldLink RX12 94 "PetrolBoardModel" "at" "[I", Cond.fieldLink RX12 97 "PetrolBoardModel" "one" "[I", Cond.fieldLink RX12 343 "PetrolBoardModel" "got" "I", Cond.constantLong RX12 390 (423), Cond.constantLong RX12 392 (1111), Cond.methodLink RX12 349 yX12_begin, Cond.instanceMethod yX12_begin, Cond.selects RX12 yX12_begin yX12_begin, Cond.initialized RX12, Cond.code yX12_begin cX12_begin 2 none, Cond.fieldLink RX12 91 "PetrolBoardModel" "what" "[I", Cond.fieldLink RX12 340 "PetrolBoardModel" "deep" "I", Cond.fieldLink RX12 100 "PetrolBoardModel" "sort" "[I", Cond.methodLink RX12 366 yX12_node, Cond.instanceMethod yX12_node, Cond.selects RX12 yX12_node yX12_node, Cond.code yX12_node cX12_node 4 (some .int), Cond.fieldLink RX12 70 "PetrolBoardModel" "nodeKind" "[I", Cond.fieldLink RX12 337 "PetrolBoardModel" "nodes" "I", Cond.fieldLink RX12 73 "PetrolBoardModel" "nodeA" "[I", Cond.fieldLink RX12 76 "PetrolBoardModel" "nodeB" "[I", Cond.methodLink RX12 377 yX12_isWord, Cond.instanceMethod yX12_isWord, Cond.selects RX12 yX12_isWord yX12_isWord]
def wsX12_chain_r2 : List Cond := [Cond.code yX12_isWord cX12_isWord 3 (some .boolean), Cond.fieldLink RX12 281 "PetrolBoardModel" "token" "I", Cond.fieldLink RX12 271 "PetrolBoardModel" "word" "J", Cond.methodLink RX12 301 yX12_next, Cond.instanceMethod yX12_next, Cond.selects RX12 yX12_next yX12_next, Cond.code yX12_next cX12_next 2 none, Cond.fieldLink RX12 256 "PetrolBoardModel" "point" "I", Cond.fieldLink RX12 266 "PetrolBoardModel" "from" "I", Cond.constantLong RX12 269 (-1), Cond.fieldLink RX12 275 "PetrolBoardModel" "sign" "I", Cond.fieldLink RX12 278 "PetrolBoardModel" "value" "I", Cond.constantLong RX12 284 (27), Cond.constant RX12 286 (10000000), Cond.methodLink RX12 262 yX12_here, Cond.instanceMethod yX12_here, Cond.selects RX12 yX12_here yX12_here, Cond.code yX12_here cX12_here 1 (some .int), Cond.fieldLink RX12 259 "PetrolBoardModel" "limit" "I", Cond.fieldLink RX12 83 "PetrolBoardModel" "tape" "[B", Cond.methodLink RX12 235 yX12_within, Cond.static yX12_within, Cond.code yX12_within cX12_within 3 (some .boolean), Cond.methodLink RX12 287 yX12_min]
def wsX12_chain_r3 : List Cond := [Cond.static yX12_min, Cond.code yX12_min cX12_min 2 (some .int), Cond.methodLink RX12 291 yX12_isSignByte, Cond.static yX12_isSignByte, Cond.code yX12_isSignByte cX12_isSignByte 1 (some .boolean), Cond.methodLink RX12 369 yX12_ends, Cond.instanceMethod yX12_ends, Cond.selects RX12 yX12_ends yX12_ends, Cond.code yX12_ends cX12_ends 2 none]
def wsX12_chain : List Cond := .code yX12_chain cX12_chain 3 none :: ((wsX12_chain_r1 ++ (wsX12_chain_r2 ++ wsX12_chain_r3)) ++ wsX120)
def wsX12_test_r1 : List Cond := [Cond.fieldLink RX12 94 "PetrolBoardModel" "at" "[I", Cond.constantLong RX12 394 (10631), Cond.fieldLink RX12 346 "PetrolBoardModel" "open" "I", Cond.fieldLink RX12 343 "PetrolBoardModel" "got" "I", Cond.fieldLink RX12 294 "PetrolBoardModel" "isWrong" "Z", Cond.fieldLink RX12 97 "PetrolBoardModel" "one" "[I", Cond.fieldLink RX12 100 "PetrolBoardModel" "sort" "[I", Cond.methodLink RX12 377 yX12_isWord, Cond.instanceMethod yX12_isWord, Cond.selects RX12 yX12_isWord yX12_isWord, Cond.initialized RX12, Cond.code yX12_isWord cX12_isWord 3 (some .boolean), Cond.fieldLink RX12 281 "PetrolBoardModel" "token" "I", Cond.fieldLink RX12 271 "PetrolBoardModel" "word" "J", Cond.methodLink RX12 372 yX12_opens, Cond.instanceMethod yX12_opens, Cond.selects RX12 yX12_opens yX12_opens, Cond.code yX12_opens cX12_opens 1 none, Cond.methodLink RX12 304 yX12_errs, Cond.instanceMethod yX12_errs, Cond.selects RX12 yX12_errs yX12_errs, Cond.code yX12_errs cX12_errs 1 none, Cond.fieldLink RX12 266 "PetrolBoardModel" "from" "I", Cond.fieldLink RX12 87 "PetrolBoardModel" "faultAt" "I"]
def wsX12_test_r2 : List Cond := [Cond.methodLink RX12 301 yX12_next, Cond.instanceMethod yX12_next, Cond.selects RX12 yX12_next yX12_next, Cond.code yX12_next cX12_next 2 none, Cond.fieldLink RX12 256 "PetrolBoardModel" "point" "I", Cond.constantLong RX12 269 (-1), Cond.fieldLink RX12 275 "PetrolBoardModel" "sign" "I", Cond.fieldLink RX12 278 "PetrolBoardModel" "value" "I", Cond.constantLong RX12 284 (27), Cond.constant RX12 286 (10000000), Cond.methodLink RX12 262 yX12_here, Cond.instanceMethod yX12_here, Cond.selects RX12 yX12_here yX12_here, Cond.code yX12_here cX12_here 1 (some .int), Cond.fieldLink RX12 259 "PetrolBoardModel" "limit" "I", Cond.fieldLink RX12 83 "PetrolBoardModel" "tape" "[B", Cond.methodLink RX12 235 yX12_within, Cond.static yX12_within, Cond.code yX12_within cX12_within 3 (some .boolean), Cond.methodLink RX12 287 yX12_min, Cond.static yX12_min, Cond.code yX12_min cX12_min 2 (some .int), Cond.methodLink RX12 291 yX12_isSignByte, Cond.static yX12_isSignByte]
def wsX12_test_r3 : List Cond := [Cond.code yX12_isSignByte cX12_isSignByte 1 (some .boolean), Cond.methodLink RX12 349 yX12_begin, Cond.instanceMethod yX12_begin, Cond.selects RX12 yX12_begin yX12_begin, Cond.code yX12_begin cX12_begin 2 none, Cond.fieldLink RX12 91 "PetrolBoardModel" "what" "[I", Cond.fieldLink RX12 340 "PetrolBoardModel" "deep" "I", Cond.methodLink RX12 298 yX12_isSign, Cond.instanceMethod yX12_isSign, Cond.selects RX12 yX12_isSign yX12_isSign, Cond.code yX12_isSign cX12_isSign 2 (some .boolean), Cond.methodLink RX12 366 yX12_node, Cond.instanceMethod yX12_node, Cond.selects RX12 yX12_node yX12_node, Cond.code yX12_node cX12_node 4 (some .int), Cond.fieldLink RX12 70 "PetrolBoardModel" "nodeKind" "[I", Cond.fieldLink RX12 337 "PetrolBoardModel" "nodes" "I", Cond.fieldLink RX12 73 "PetrolBoardModel" "nodeA" "[I", Cond.fieldLink RX12 76 "PetrolBoardModel" "nodeB" "[I", Cond.methodLink RX12 369 yX12_ends, Cond.instanceMethod yX12_ends, Cond.selects RX12 yX12_ends yX12_ends, Cond.code yX12_ends cX12_ends 2 none, Cond.methodLink RX12 383 yX12_must]
def wsX12_test_r4 : List Cond := [Cond.instanceMethod yX12_must, Cond.selects RX12 yX12_must yX12_must, Cond.code yX12_must cX12_must 2 none]
def wsX12_test : List Cond := .code yX12_test cX12_test 2 none :: ((wsX12_test_r1 ++ (wsX12_test_r2 ++ (wsX12_test_r3 ++ wsX12_test_r4))) ++ wsX120)
def wsX12_parse_r1 : List Cond := [Cond.fieldLink RX12 340 "PetrolBoardModel" "deep" "I", Cond.fieldLink RX12 346 "PetrolBoardModel" "open" "I", Cond.fieldLink RX12 294 "PetrolBoardModel" "isWrong" "Z", Cond.fieldLink RX12 91 "PetrolBoardModel" "what" "[I", Cond.fieldLink RX12 343 "PetrolBoardModel" "got" "I", Cond.methodLink RX12 349 yX12_begin, Cond.instanceMethod yX12_begin, Cond.selects RX12 yX12_begin yX12_begin, Cond.initialized RX12, Cond.code yX12_begin cX12_begin 2 none, Cond.fieldLink RX12 94 "PetrolBoardModel" "at" "[I", Cond.fieldLink RX12 97 "PetrolBoardModel" "one" "[I", Cond.fieldLink RX12 100 "PetrolBoardModel" "sort" "[I", Cond.methodLink RX12 353 yX12_sums, Cond.instanceMethod yX12_sums, Cond.selects RX12 yX12_sums yX12_sums, Cond.code yX12_sums cX12_sums 4 none, Cond.methodLink RX12 366 yX12_node, Cond.instanceMethod yX12_node, Cond.selects RX12 yX12_node yX12_node, Cond.code yX12_node cX12_node 4 (some .int), Cond.fieldLink RX12 70 "PetrolBoardModel" "nodeKind" "[I", Cond.fieldLink RX12 337 "PetrolBoardModel" "nodes" "I", Cond.fieldLink RX12 73 "PetrolBoardModel" "nodeA" "[I"]
def wsX12_parse_r2 : List Cond := [Cond.fieldLink RX12 76 "PetrolBoardModel" "nodeB" "[I", Cond.methodLink RX12 298 yX12_isSign, Cond.instanceMethod yX12_isSign, Cond.selects RX12 yX12_isSign yX12_isSign, Cond.code yX12_isSign cX12_isSign 2 (some .boolean), Cond.fieldLink RX12 281 "PetrolBoardModel" "token" "I", Cond.fieldLink RX12 275 "PetrolBoardModel" "sign" "I", Cond.methodLink RX12 301 yX12_next, Cond.instanceMethod yX12_next, Cond.selects RX12 yX12_next yX12_next, Cond.code yX12_next cX12_next 2 none, Cond.fieldLink RX12 256 "PetrolBoardModel" "point" "I", Cond.fieldLink RX12 266 "PetrolBoardModel" "from" "I", Cond.constantLong RX12 269 (-1), Cond.fieldLink RX12 271 "PetrolBoardModel" "word" "J", Cond.fieldLink RX12 278 "PetrolBoardModel" "value" "I", Cond.constantLong RX12 284 (27), Cond.constant RX12 286 (10000000), Cond.methodLink RX12 262 yX12_here, Cond.instanceMethod yX12_here, Cond.selects RX12 yX12_here yX12_here, Cond.code yX12_here cX12_here 1 (some .int), Cond.fieldLink RX12 259 "PetrolBoardModel" "limit" "I", Cond.fieldLink RX12 83 "PetrolBoardModel" "tape" "[B"]
def wsX12_parse_r3 : List Cond := [Cond.methodLink RX12 235 yX12_within, Cond.static yX12_within, Cond.code yX12_within cX12_within 3 (some .boolean), Cond.methodLink RX12 287 yX12_min, Cond.static yX12_min, Cond.code yX12_min cX12_min 2 (some .int), Cond.methodLink RX12 291 yX12_isSignByte, Cond.static yX12_isSignByte, Cond.code yX12_isSignByte cX12_isSignByte 1 (some .boolean), Cond.methodLink RX12 369 yX12_ends, Cond.instanceMethod yX12_ends, Cond.selects RX12 yX12_ends yX12_ends, Cond.code yX12_ends cX12_ends 2 none, Cond.methodLink RX12 357 yX12_atom, Cond.instanceMethod yX12_atom, Cond.selects RX12 yX12_atom yX12_atom, Cond.code yX12_atom cX12_atom 3 none, Cond.constantLong RX12 375 (6476969), Cond.constantLong RX12 381 (267347), Cond.methodLink RX12 372 yX12_opens, Cond.instanceMethod yX12_opens, Cond.selects RX12 yX12_opens yX12_opens, Cond.code yX12_opens cX12_opens 1 none, Cond.methodLink RX12 304 yX12_errs]
def wsX12_parse_r4 : List Cond := [Cond.instanceMethod yX12_errs, Cond.selects RX12 yX12_errs yX12_errs, Cond.code yX12_errs cX12_errs 1 none, Cond.fieldLink RX12 87 "PetrolBoardModel" "faultAt" "I", Cond.methodLink RX12 377 yX12_isWord, Cond.instanceMethod yX12_isWord, Cond.selects RX12 yX12_isWord yX12_isWord, Cond.code yX12_isWord cX12_isWord 3 (some .boolean), Cond.methodLink RX12 383 yX12_must, Cond.instanceMethod yX12_must, Cond.selects RX12 yX12_must yX12_must, Cond.code yX12_must cX12_must 2 none, Cond.methodLink RX12 386 yX12_nameOf, Cond.instanceMethod yX12_nameOf, Cond.selects RX12 yX12_nameOf yX12_nameOf, Cond.code yX12_nameOf cX12_nameOf 3 (some .int), Cond.constantLong RX12 323 (1831780), Cond.constantLong RX12 325 (381245), Cond.constantLong RX12 327 (405230), Cond.constantLong RX12 329 (7214732), Cond.constantLong RX12 331 (7094782), Cond.constantLong RX12 333 (232546955), Cond.constantLong RX12 335 (260971484), Cond.methodLink RX12 360 yX12_chain]
def wsX12_parse_r5 : List Cond := [Cond.instanceMethod yX12_chain, Cond.selects RX12 yX12_chain yX12_chain, Cond.code yX12_chain cX12_chain 3 none, Cond.constantLong RX12 390 (423), Cond.constantLong RX12 392 (1111), Cond.methodLink RX12 363 yX12_test, Cond.instanceMethod yX12_test, Cond.selects RX12 yX12_test yX12_test, Cond.code yX12_test cX12_test 2 none, Cond.constantLong RX12 394 (10631)]
def wsX12_parse : List Cond := .code yX12_parse cX12_parse 4 (some .int) :: ((wsX12_parse_r1 ++ (wsX12_parse_r2 ++ (wsX12_parse_r3 ++ (wsX12_parse_r4 ++ wsX12_parse_r5)))) ++ wsX120)
def wsX12_statement_r1 : List Cond := [Cond.fieldLink RX12 55 "PetrolBoardModel" "stNumber" "[I", Cond.fieldLink RX12 58 "PetrolBoardModel" "stEx" "[I", Cond.fieldLink RX12 61 "PetrolBoardModel" "stCond" "[I", Cond.fieldLink RX12 64 "PetrolBoardModel" "stFrom" "[I", Cond.fieldLink RX12 337 "PetrolBoardModel" "nodes" "I", Cond.fieldLink RX12 281 "PetrolBoardModel" "token" "I", Cond.fieldLink RX12 271 "PetrolBoardModel" "word" "J", Cond.fieldLink RX12 52 "PetrolBoardModel" "stRule" "[I", Cond.fieldLink RX12 294 "PetrolBoardModel" "isWrong" "Z", Cond.constantLong RX12 403 (249), Cond.fieldLink RX12 278 "PetrolBoardModel" "value" "I", Cond.fieldLink RX12 67 "PetrolBoardModel" "stTo" "[I", Cond.methodLink RX12 396 yX12_ruleOf, Cond.instanceMethod yX12_ruleOf, Cond.selects RX12 yX12_ruleOf yX12_ruleOf, Cond.initialized RX12, Cond.code yX12_ruleOf cX12_ruleOf 3 (some .int), Cond.constantLong RX12 307 (11442943), Cond.constantLong RX12 309 (407041), Cond.constantLong RX12 311 (388978), Cond.constantLong RX12 313 (12532058), Cond.constantLong RX12 315 (6409157), Cond.constantLong RX12 317 (240223), Cond.constantLong RX12 319 (12257222)]
def wsX12_statement_r2 : List Cond := [Cond.constantLong RX12 321 (2436392), Cond.methodLink RX12 304 yX12_errs, Cond.instanceMethod yX12_errs, Cond.selects RX12 yX12_errs yX12_errs, Cond.code yX12_errs cX12_errs 1 none, Cond.fieldLink RX12 266 "PetrolBoardModel" "from" "I", Cond.fieldLink RX12 87 "PetrolBoardModel" "faultAt" "I", Cond.methodLink RX12 301 yX12_next, Cond.instanceMethod yX12_next, Cond.selects RX12 yX12_next yX12_next, Cond.code yX12_next cX12_next 2 none, Cond.fieldLink RX12 256 "PetrolBoardModel" "point" "I", Cond.constantLong RX12 269 (-1), Cond.fieldLink RX12 275 "PetrolBoardModel" "sign" "I", Cond.constantLong RX12 284 (27), Cond.constant RX12 286 (10000000), Cond.methodLink RX12 262 yX12_here, Cond.instanceMethod yX12_here, Cond.selects RX12 yX12_here yX12_here, Cond.code yX12_here cX12_here 1 (some .int), Cond.fieldLink RX12 259 "PetrolBoardModel" "limit" "I", Cond.fieldLink RX12 83 "PetrolBoardModel" "tape" "[B", Cond.methodLink RX12 235 yX12_within, Cond.static yX12_within]
def wsX12_statement_r3 : List Cond := [Cond.code yX12_within cX12_within 3 (some .boolean), Cond.methodLink RX12 287 yX12_min, Cond.static yX12_min, Cond.code yX12_min cX12_min 2 (some .int), Cond.methodLink RX12 291 yX12_isSignByte, Cond.static yX12_isSignByte, Cond.code yX12_isSignByte cX12_isSignByte 1 (some .boolean), Cond.methodLink RX12 399 yX12_parse, Cond.instanceMethod yX12_parse, Cond.selects RX12 yX12_parse yX12_parse, Cond.code yX12_parse cX12_parse 4 (some .int), Cond.fieldLink RX12 340 "PetrolBoardModel" "deep" "I", Cond.fieldLink RX12 346 "PetrolBoardModel" "open" "I", Cond.fieldLink RX12 91 "PetrolBoardModel" "what" "[I", Cond.fieldLink RX12 343 "PetrolBoardModel" "got" "I", Cond.methodLink RX12 349 yX12_begin, Cond.instanceMethod yX12_begin, Cond.selects RX12 yX12_begin yX12_begin, Cond.code yX12_begin cX12_begin 2 none, Cond.fieldLink RX12 94 "PetrolBoardModel" "at" "[I", Cond.fieldLink RX12 97 "PetrolBoardModel" "one" "[I", Cond.fieldLink RX12 100 "PetrolBoardModel" "sort" "[I", Cond.methodLink RX12 353 yX12_sums, Cond.instanceMethod yX12_sums]
def wsX12_statement_r4 : List Cond := [Cond.selects RX12 yX12_sums yX12_sums, Cond.code yX12_sums cX12_sums 4 none, Cond.methodLink RX12 366 yX12_node, Cond.instanceMethod yX12_node, Cond.selects RX12 yX12_node yX12_node, Cond.code yX12_node cX12_node 4 (some .int), Cond.fieldLink RX12 70 "PetrolBoardModel" "nodeKind" "[I", Cond.fieldLink RX12 73 "PetrolBoardModel" "nodeA" "[I", Cond.fieldLink RX12 76 "PetrolBoardModel" "nodeB" "[I", Cond.methodLink RX12 298 yX12_isSign, Cond.instanceMethod yX12_isSign, Cond.selects RX12 yX12_isSign yX12_isSign, Cond.code yX12_isSign cX12_isSign 2 (some .boolean), Cond.methodLink RX12 369 yX12_ends, Cond.instanceMethod yX12_ends, Cond.selects RX12 yX12_ends yX12_ends, Cond.code yX12_ends cX12_ends 2 none, Cond.methodLink RX12 357 yX12_atom, Cond.instanceMethod yX12_atom, Cond.selects RX12 yX12_atom yX12_atom, Cond.code yX12_atom cX12_atom 3 none, Cond.constantLong RX12 375 (6476969), Cond.constantLong RX12 381 (267347), Cond.methodLink RX12 372 yX12_opens]
def wsX12_statement_r5 : List Cond := [Cond.instanceMethod yX12_opens, Cond.selects RX12 yX12_opens yX12_opens, Cond.code yX12_opens cX12_opens 1 none, Cond.methodLink RX12 377 yX12_isWord, Cond.instanceMethod yX12_isWord, Cond.selects RX12 yX12_isWord yX12_isWord, Cond.code yX12_isWord cX12_isWord 3 (some .boolean), Cond.methodLink RX12 383 yX12_must, Cond.instanceMethod yX12_must, Cond.selects RX12 yX12_must yX12_must, Cond.code yX12_must cX12_must 2 none, Cond.methodLink RX12 386 yX12_nameOf, Cond.instanceMethod yX12_nameOf, Cond.selects RX12 yX12_nameOf yX12_nameOf, Cond.code yX12_nameOf cX12_nameOf 3 (some .int), Cond.constantLong RX12 323 (1831780), Cond.constantLong RX12 325 (381245), Cond.constantLong RX12 327 (405230), Cond.constantLong RX12 329 (7214732), Cond.constantLong RX12 331 (7094782), Cond.constantLong RX12 333 (232546955), Cond.constantLong RX12 335 (260971484), Cond.methodLink RX12 360 yX12_chain, Cond.instanceMethod yX12_chain]
def wsX12_statement_r6 : List Cond := [Cond.selects RX12 yX12_chain yX12_chain, Cond.code yX12_chain cX12_chain 3 none, Cond.constantLong RX12 390 (423), Cond.constantLong RX12 392 (1111), Cond.methodLink RX12 363 yX12_test, Cond.instanceMethod yX12_test, Cond.selects RX12 yX12_test yX12_test, Cond.code yX12_test cX12_test 2 none, Cond.constantLong RX12 394 (10631)]
def wsX12_statement : List Cond := .code yX12_statement cX12_statement 3 none :: ((wsX12_statement_r1 ++ (wsX12_statement_r2 ++ (wsX12_statement_r3 ++ (wsX12_statement_r4 ++ (wsX12_statement_r5 ++ wsX12_statement_r6))))) ++ wsX120)
def wsX12_orders_r1 : List Cond := [Cond.fieldLink RX12 253 "PetrolBoardModel" "taped" "I", Cond.fieldLink RX12 408 "PetrolBoardModel" "texts" "I", Cond.fieldLink RX12 259 "PetrolBoardModel" "limit" "I", Cond.fieldLink RX12 256 "PetrolBoardModel" "point" "I", Cond.fieldLink RX12 87 "PetrolBoardModel" "faultAt" "I", Cond.fieldLink RX12 294 "PetrolBoardModel" "isWrong" "Z", Cond.fieldLink RX12 411 "PetrolBoardModel" "statements" "I", Cond.fieldLink RX12 337 "PetrolBoardModel" "nodes" "I", Cond.fieldLink RX12 281 "PetrolBoardModel" "token" "I", Cond.fieldLink RX12 40 "PetrolBoardModel" "textFirst" "[I", Cond.fieldLink RX12 43 "PetrolBoardModel" "textMany" "[I", Cond.fieldLink RX12 46 "PetrolBoardModel" "textMonth" "[I", Cond.fieldLink RX12 49 "PetrolBoardModel" "textTold" "[I", Cond.fieldLink RX12 232 "PetrolBoardModel" "today" "I", Cond.methodLink RX12 405 yX12_isMonth, Cond.static yX12_isMonth, Cond.initialized RX12, Cond.code yX12_isMonth cX12_isMonth 1 (some .boolean), Cond.methodLink RX12 301 yX12_next, Cond.instanceMethod yX12_next, Cond.selects RX12 yX12_next yX12_next, Cond.code yX12_next cX12_next 2 none, Cond.fieldLink RX12 266 "PetrolBoardModel" "from" "I", Cond.constantLong RX12 269 (-1)]
def wsX12_orders_r2 : List Cond := [Cond.fieldLink RX12 271 "PetrolBoardModel" "word" "J", Cond.fieldLink RX12 275 "PetrolBoardModel" "sign" "I", Cond.fieldLink RX12 278 "PetrolBoardModel" "value" "I", Cond.constantLong RX12 284 (27), Cond.constant RX12 286 (10000000), Cond.methodLink RX12 262 yX12_here, Cond.instanceMethod yX12_here, Cond.selects RX12 yX12_here yX12_here, Cond.code yX12_here cX12_here 1 (some .int), Cond.fieldLink RX12 83 "PetrolBoardModel" "tape" "[B", Cond.methodLink RX12 235 yX12_within, Cond.static yX12_within, Cond.code yX12_within cX12_within 3 (some .boolean), Cond.methodLink RX12 287 yX12_min, Cond.static yX12_min, Cond.code yX12_min cX12_min 2 (some .int), Cond.methodLink RX12 291 yX12_isSignByte, Cond.static yX12_isSignByte, Cond.code yX12_isSignByte cX12_isSignByte 1 (some .boolean), Cond.methodLink RX12 304 yX12_errs, Cond.instanceMethod yX12_errs, Cond.selects RX12 yX12_errs yX12_errs, Cond.code yX12_errs cX12_errs 1 none, Cond.methodLink RX12 414 yX12_statement]
def wsX12_orders_r3 : List Cond := [Cond.instanceMethod yX12_statement, Cond.selects RX12 yX12_statement yX12_statement, Cond.code yX12_statement cX12_statement 3 none, Cond.fieldLink RX12 55 "PetrolBoardModel" "stNumber" "[I", Cond.fieldLink RX12 58 "PetrolBoardModel" "stEx" "[I", Cond.fieldLink RX12 61 "PetrolBoardModel" "stCond" "[I", Cond.fieldLink RX12 64 "PetrolBoardModel" "stFrom" "[I", Cond.fieldLink RX12 52 "PetrolBoardModel" "stRule" "[I", Cond.constantLong RX12 403 (249), Cond.fieldLink RX12 67 "PetrolBoardModel" "stTo" "[I", Cond.methodLink RX12 396 yX12_ruleOf, Cond.instanceMethod yX12_ruleOf, Cond.selects RX12 yX12_ruleOf yX12_ruleOf, Cond.code yX12_ruleOf cX12_ruleOf 3 (some .int), Cond.constantLong RX12 307 (11442943), Cond.constantLong RX12 309 (407041), Cond.constantLong RX12 311 (388978), Cond.constantLong RX12 313 (12532058), Cond.constantLong RX12 315 (6409157), Cond.constantLong RX12 317 (240223), Cond.constantLong RX12 319 (12257222), Cond.constantLong RX12 321 (2436392), Cond.methodLink RX12 399 yX12_parse, Cond.instanceMethod yX12_parse]
def wsX12_orders_r4 : List Cond := [Cond.selects RX12 yX12_parse yX12_parse, Cond.code yX12_parse cX12_parse 4 (some .int), Cond.fieldLink RX12 340 "PetrolBoardModel" "deep" "I", Cond.fieldLink RX12 346 "PetrolBoardModel" "open" "I", Cond.fieldLink RX12 91 "PetrolBoardModel" "what" "[I", Cond.fieldLink RX12 343 "PetrolBoardModel" "got" "I", Cond.methodLink RX12 349 yX12_begin, Cond.instanceMethod yX12_begin, Cond.selects RX12 yX12_begin yX12_begin, Cond.code yX12_begin cX12_begin 2 none, Cond.fieldLink RX12 94 "PetrolBoardModel" "at" "[I", Cond.fieldLink RX12 97 "PetrolBoardModel" "one" "[I", Cond.fieldLink RX12 100 "PetrolBoardModel" "sort" "[I", Cond.methodLink RX12 353 yX12_sums, Cond.instanceMethod yX12_sums, Cond.selects RX12 yX12_sums yX12_sums, Cond.code yX12_sums cX12_sums 4 none, Cond.methodLink RX12 366 yX12_node, Cond.instanceMethod yX12_node, Cond.selects RX12 yX12_node yX12_node, Cond.code yX12_node cX12_node 4 (some .int), Cond.fieldLink RX12 70 "PetrolBoardModel" "nodeKind" "[I", Cond.fieldLink RX12 73 "PetrolBoardModel" "nodeA" "[I", Cond.fieldLink RX12 76 "PetrolBoardModel" "nodeB" "[I"]
def wsX12_orders_r5 : List Cond := [Cond.methodLink RX12 298 yX12_isSign, Cond.instanceMethod yX12_isSign, Cond.selects RX12 yX12_isSign yX12_isSign, Cond.code yX12_isSign cX12_isSign 2 (some .boolean), Cond.methodLink RX12 369 yX12_ends, Cond.instanceMethod yX12_ends, Cond.selects RX12 yX12_ends yX12_ends, Cond.code yX12_ends cX12_ends 2 none, Cond.methodLink RX12 357 yX12_atom, Cond.instanceMethod yX12_atom, Cond.selects RX12 yX12_atom yX12_atom, Cond.code yX12_atom cX12_atom 3 none, Cond.constantLong RX12 375 (6476969), Cond.constantLong RX12 381 (267347), Cond.methodLink RX12 372 yX12_opens, Cond.instanceMethod yX12_opens, Cond.selects RX12 yX12_opens yX12_opens, Cond.code yX12_opens cX12_opens 1 none, Cond.methodLink RX12 377 yX12_isWord, Cond.instanceMethod yX12_isWord, Cond.selects RX12 yX12_isWord yX12_isWord, Cond.code yX12_isWord cX12_isWord 3 (some .boolean), Cond.methodLink RX12 383 yX12_must, Cond.instanceMethod yX12_must]
def wsX12_orders_r6 : List Cond := [Cond.selects RX12 yX12_must yX12_must, Cond.code yX12_must cX12_must 2 none, Cond.methodLink RX12 386 yX12_nameOf, Cond.instanceMethod yX12_nameOf, Cond.selects RX12 yX12_nameOf yX12_nameOf, Cond.code yX12_nameOf cX12_nameOf 3 (some .int), Cond.constantLong RX12 323 (1831780), Cond.constantLong RX12 325 (381245), Cond.constantLong RX12 327 (405230), Cond.constantLong RX12 329 (7214732), Cond.constantLong RX12 331 (7094782), Cond.constantLong RX12 333 (232546955), Cond.constantLong RX12 335 (260971484), Cond.methodLink RX12 360 yX12_chain, Cond.instanceMethod yX12_chain, Cond.selects RX12 yX12_chain yX12_chain, Cond.code yX12_chain cX12_chain 3 none, Cond.constantLong RX12 390 (423), Cond.constantLong RX12 392 (1111), Cond.methodLink RX12 363 yX12_test, Cond.instanceMethod yX12_test, Cond.selects RX12 yX12_test yX12_test, Cond.code yX12_test cX12_test 2 none, Cond.constantLong RX12 394 (10631)]
def wsX12_orders : List Cond := .code yX12_orders cX12_orders 5 (some .int) :: ((wsX12_orders_r1 ++ (wsX12_orders_r2 ++ (wsX12_orders_r3 ++ (wsX12_orders_r4 ++ (wsX12_orders_r5 ++ wsX12_orders_r6))))) ++ wsX120)
def wsX12_fault : List Cond := .code yX12_fault cX12_fault 1 (some .int) :: ([.fieldLink RX12 87 "PetrolBoardModel" "faultAt" "I"] ++ wsX120)
def wsX12_inForce : List Cond := .code yX12_inForce cX12_inForce 5 (some .int) :: ([.fieldLink RX12 408 "PetrolBoardModel" "texts" "I", .fieldLink RX12 49 "PetrolBoardModel" "textTold" "[I", .fieldLink RX12 46 "PetrolBoardModel" "textMonth" "[I"] ++ wsX120)
def wsX12_number : List Cond := .code yX12_number cX12_number 7 (some .int) :: ([.fieldLink RX12 40 "PetrolBoardModel" "textFirst" "[I", .fieldLink RX12 43 "PetrolBoardModel" "textMany" "[I", .fieldLink RX12 52 "PetrolBoardModel" "stRule" "[I", .fieldLink RX12 55 "PetrolBoardModel" "stNumber" "[I", .methodLink RX12 417 yX12_inForce, .instanceMethod yX12_inForce, .selects RX12 yX12_inForce yX12_inForce, .initialized RX12, .code yX12_inForce cX12_inForce 5 (some .int), .fieldLink RX12 408 "PetrolBoardModel" "texts" "I", .fieldLink RX12 49 "PetrolBoardModel" "textTold" "[I", .fieldLink RX12 46 "PetrolBoardModel" "textMonth" "[I"] ++ wsX120)
def wsX12_rule_r1 : List Cond := [Cond.methodLink RX12 405 yX12_isMonth, Cond.static yX12_isMonth, Cond.initialized RX12, Cond.code yX12_isMonth cX12_isMonth 1 (some .boolean), Cond.methodLink RX12 243 yX12_isDay, Cond.static yX12_isDay, Cond.code yX12_isDay cX12_isDay 1 (some .boolean), Cond.methodLink RX12 417 yX12_inForce, Cond.instanceMethod yX12_inForce, Cond.selects RX12 yX12_inForce yX12_inForce, Cond.code yX12_inForce cX12_inForce 5 (some .int), Cond.fieldLink RX12 408 "PetrolBoardModel" "texts" "I", Cond.fieldLink RX12 49 "PetrolBoardModel" "textTold" "[I", Cond.fieldLink RX12 46 "PetrolBoardModel" "textMonth" "[I", Cond.methodLink RX12 235 yX12_within, Cond.static yX12_within, Cond.code yX12_within cX12_within 3 (some .boolean), Cond.methodLink RX12 420 yX12_number, Cond.instanceMethod yX12_number, Cond.selects RX12 yX12_number yX12_number, Cond.code yX12_number cX12_number 7 (some .int), Cond.fieldLink RX12 40 "PetrolBoardModel" "textFirst" "[I", Cond.fieldLink RX12 43 "PetrolBoardModel" "textMany" "[I", Cond.fieldLink RX12 52 "PetrolBoardModel" "stRule" "[I"]
def wsX12_rule_r2 : List Cond := [Cond.fieldLink RX12 55 "PetrolBoardModel" "stNumber" "[I"]
def wsX12_rule : List Cond := .code yX12_rule cX12_rule 4 (some .int) :: ((wsX12_rule_r1 ++ wsX12_rule_r2) ++ wsX120)
def wsX12_held : List Cond := .code yX12_held cX12_held 2 (some .long) :: ([.constantLong RX12 423 (1000000000), .constantLong RX12 425 (-1000000000)])
def wsX12_works : List Cond := .code yX12_works cX12_works 10 none :: ([.fieldLink RX12 64 "PetrolBoardModel" "stFrom" "[I", .fieldLink RX12 67 "PetrolBoardModel" "stTo" "[I", .fieldLink RX12 70 "PetrolBoardModel" "nodeKind" "[I", .fieldLink RX12 79 "PetrolBoardModel" "result" "[J", .fieldLink RX12 73 "PetrolBoardModel" "nodeA" "[I", .fieldLink RX12 76 "PetrolBoardModel" "nodeB" "[I", .fieldLink RX12 103 "PetrolBoardModel" "asks" "[J", .methodLink RX12 427 yX12_held, .static yX12_held, .initialized RX12, .code yX12_held cX12_held 2 (some .long), .constantLong RX12 423 (1000000000), .constantLong RX12 425 (-1000000000)] ++ wsX120)
def wsX12_holds : List Cond := .code yX12_holds cX12_holds 2 (some .boolean) :: ([.fieldLink RX12 61 "PetrolBoardModel" "stCond" "[I", .fieldLink RX12 79 "PetrolBoardModel" "result" "[J", .methodLink RX12 431 yX12_works, .instanceMethod yX12_works, .selects RX12 yX12_works yX12_works, .initialized RX12, .code yX12_works cX12_works 10 none, .fieldLink RX12 64 "PetrolBoardModel" "stFrom" "[I", .fieldLink RX12 67 "PetrolBoardModel" "stTo" "[I", .fieldLink RX12 70 "PetrolBoardModel" "nodeKind" "[I", .fieldLink RX12 73 "PetrolBoardModel" "nodeA" "[I", .fieldLink RX12 76 "PetrolBoardModel" "nodeB" "[I", .fieldLink RX12 103 "PetrolBoardModel" "asks" "[J", .methodLink RX12 427 yX12_held, .static yX12_held, .code yX12_held cX12_held 2 (some .long), .constantLong RX12 423 (1000000000), .constantLong RX12 425 (-1000000000)] ++ wsX120)
def wsX12_first_r1 : List Cond := [Cond.fieldLink RX12 40 "PetrolBoardModel" "textFirst" "[I", Cond.fieldLink RX12 43 "PetrolBoardModel" "textMany" "[I", Cond.fieldLink RX12 52 "PetrolBoardModel" "stRule" "[I", Cond.fieldLink RX12 79 "PetrolBoardModel" "result" "[J", Cond.fieldLink RX12 58 "PetrolBoardModel" "stEx" "[I", Cond.constantLong RX12 437 (99), Cond.methodLink RX12 434 yX12_holds, Cond.instanceMethod yX12_holds, Cond.selects RX12 yX12_holds yX12_holds, Cond.initialized RX12, Cond.code yX12_holds cX12_holds 2 (some .boolean), Cond.fieldLink RX12 61 "PetrolBoardModel" "stCond" "[I", Cond.methodLink RX12 431 yX12_works, Cond.instanceMethod yX12_works, Cond.selects RX12 yX12_works yX12_works, Cond.code yX12_works cX12_works 10 none, Cond.fieldLink RX12 64 "PetrolBoardModel" "stFrom" "[I", Cond.fieldLink RX12 67 "PetrolBoardModel" "stTo" "[I", Cond.fieldLink RX12 70 "PetrolBoardModel" "nodeKind" "[I", Cond.fieldLink RX12 73 "PetrolBoardModel" "nodeA" "[I", Cond.fieldLink RX12 76 "PetrolBoardModel" "nodeB" "[I", Cond.fieldLink RX12 103 "PetrolBoardModel" "asks" "[J", Cond.methodLink RX12 427 yX12_held, Cond.static yX12_held]
def wsX12_first_r2 : List Cond := [Cond.code yX12_held cX12_held 2 (some .long), Cond.constantLong RX12 423 (1000000000), Cond.constantLong RX12 425 (-1000000000)]
def wsX12_first : List Cond := .code yX12_first cX12_first 6 (some .int) :: ((wsX12_first_r1 ++ wsX12_first_r2) ++ wsX120)
def wsX12_asked : List Cond := .code yX12_asked cX12_asked 7 none :: ([.fieldLink RX12 103 "PetrolBoardModel" "asks" "[J", .fieldLink RX12 7 "PetrolBoardModel" "sizeOf" "[I", .fieldLink RX12 13 "PetrolBoardModel" "townOf" "[I"] ++ wsX120)
def wsX12_unitsOf_r1 : List Cond := [Cond.fieldLink RX12 40 "PetrolBoardModel" "textFirst" "[I", Cond.fieldLink RX12 43 "PetrolBoardModel" "textMany" "[I", Cond.fieldLink RX12 52 "PetrolBoardModel" "stRule" "[I", Cond.methodLink RX12 249 yX12_kindOn, Cond.instanceMethod yX12_kindOn, Cond.selects RX12 yX12_kindOn yX12_kindOn, Cond.initialized RX12, Cond.code yX12_kindOn cX12_kindOn 6 (some .int), Cond.fieldLink RX12 246 "PetrolBoardModel" "notes" "I", Cond.fieldLink RX12 25 "PetrolBoardModel" "noteWho" "[I", Cond.fieldLink RX12 31 "PetrolBoardModel" "noteFrom" "[I", Cond.fieldLink RX12 34 "PetrolBoardModel" "noteTold" "[I", Cond.fieldLink RX12 37 "PetrolBoardModel" "noteGone" "[I", Cond.fieldLink RX12 28 "PetrolBoardModel" "noteClass" "[I", Cond.methodLink RX12 439 yX12_asked, Cond.instanceMethod yX12_asked, Cond.selects RX12 yX12_asked yX12_asked, Cond.code yX12_asked cX12_asked 7 none, Cond.fieldLink RX12 103 "PetrolBoardModel" "asks" "[J", Cond.fieldLink RX12 7 "PetrolBoardModel" "sizeOf" "[I", Cond.fieldLink RX12 13 "PetrolBoardModel" "townOf" "[I", Cond.methodLink RX12 417 yX12_inForce, Cond.instanceMethod yX12_inForce, Cond.selects RX12 yX12_inForce yX12_inForce]
def wsX12_unitsOf_r2 : List Cond := [Cond.code yX12_inForce cX12_inForce 5 (some .int), Cond.fieldLink RX12 408 "PetrolBoardModel" "texts" "I", Cond.fieldLink RX12 49 "PetrolBoardModel" "textTold" "[I", Cond.fieldLink RX12 46 "PetrolBoardModel" "textMonth" "[I", Cond.methodLink RX12 434 yX12_holds, Cond.instanceMethod yX12_holds, Cond.selects RX12 yX12_holds yX12_holds, Cond.code yX12_holds cX12_holds 2 (some .boolean), Cond.fieldLink RX12 61 "PetrolBoardModel" "stCond" "[I", Cond.fieldLink RX12 79 "PetrolBoardModel" "result" "[J", Cond.methodLink RX12 431 yX12_works, Cond.instanceMethod yX12_works, Cond.selects RX12 yX12_works yX12_works, Cond.code yX12_works cX12_works 10 none, Cond.fieldLink RX12 64 "PetrolBoardModel" "stFrom" "[I", Cond.fieldLink RX12 67 "PetrolBoardModel" "stTo" "[I", Cond.fieldLink RX12 70 "PetrolBoardModel" "nodeKind" "[I", Cond.fieldLink RX12 73 "PetrolBoardModel" "nodeA" "[I", Cond.fieldLink RX12 76 "PetrolBoardModel" "nodeB" "[I", Cond.methodLink RX12 427 yX12_held, Cond.static yX12_held, Cond.code yX12_held cX12_held 2 (some .long), Cond.constantLong RX12 423 (1000000000), Cond.constantLong RX12 425 (-1000000000)]
def wsX12_unitsOf_r3 : List Cond := [Cond.methodLink RX12 443 yX12_first, Cond.instanceMethod yX12_first, Cond.selects RX12 yX12_first yX12_first, Cond.code yX12_first cX12_first 6 (some .int), Cond.fieldLink RX12 58 "PetrolBoardModel" "stEx" "[I", Cond.constantLong RX12 437 (99)]
def wsX12_unitsOf : List Cond := .code yX12_unitsOf cX12_unitsOf 6 (some .int) :: ((wsX12_unitsOf_r1 ++ (wsX12_unitsOf_r2 ++ wsX12_unitsOf_r3)) ++ wsX120)
def wsX12_units_r1 : List Cond := [Cond.methodLink RX12 239 yX12_isHolder, Cond.instanceMethod yX12_isHolder, Cond.selects RX12 yX12_isHolder yX12_isHolder, Cond.initialized RX12, Cond.code yX12_isHolder cX12_isHolder 2 (some .boolean), Cond.fieldLink RX12 229 "PetrolBoardModel" "holders" "I", Cond.methodLink RX12 405 yX12_isMonth, Cond.static yX12_isMonth, Cond.code yX12_isMonth cX12_isMonth 1 (some .boolean), Cond.methodLink RX12 243 yX12_isDay, Cond.static yX12_isDay, Cond.code yX12_isDay cX12_isDay 1 (some .boolean), Cond.methodLink RX12 446 yX12_unitsOf, Cond.instanceMethod yX12_unitsOf, Cond.selects RX12 yX12_unitsOf yX12_unitsOf, Cond.code yX12_unitsOf cX12_unitsOf 6 (some .int), Cond.fieldLink RX12 40 "PetrolBoardModel" "textFirst" "[I", Cond.fieldLink RX12 43 "PetrolBoardModel" "textMany" "[I", Cond.fieldLink RX12 52 "PetrolBoardModel" "stRule" "[I", Cond.methodLink RX12 249 yX12_kindOn, Cond.instanceMethod yX12_kindOn, Cond.selects RX12 yX12_kindOn yX12_kindOn, Cond.code yX12_kindOn cX12_kindOn 6 (some .int), Cond.fieldLink RX12 246 "PetrolBoardModel" "notes" "I"]
def wsX12_units_r2 : List Cond := [Cond.fieldLink RX12 25 "PetrolBoardModel" "noteWho" "[I", Cond.fieldLink RX12 31 "PetrolBoardModel" "noteFrom" "[I", Cond.fieldLink RX12 34 "PetrolBoardModel" "noteTold" "[I", Cond.fieldLink RX12 37 "PetrolBoardModel" "noteGone" "[I", Cond.fieldLink RX12 28 "PetrolBoardModel" "noteClass" "[I", Cond.methodLink RX12 439 yX12_asked, Cond.instanceMethod yX12_asked, Cond.selects RX12 yX12_asked yX12_asked, Cond.code yX12_asked cX12_asked 7 none, Cond.fieldLink RX12 103 "PetrolBoardModel" "asks" "[J", Cond.fieldLink RX12 7 "PetrolBoardModel" "sizeOf" "[I", Cond.fieldLink RX12 13 "PetrolBoardModel" "townOf" "[I", Cond.methodLink RX12 417 yX12_inForce, Cond.instanceMethod yX12_inForce, Cond.selects RX12 yX12_inForce yX12_inForce, Cond.code yX12_inForce cX12_inForce 5 (some .int), Cond.fieldLink RX12 408 "PetrolBoardModel" "texts" "I", Cond.fieldLink RX12 49 "PetrolBoardModel" "textTold" "[I", Cond.fieldLink RX12 46 "PetrolBoardModel" "textMonth" "[I", Cond.methodLink RX12 434 yX12_holds, Cond.instanceMethod yX12_holds, Cond.selects RX12 yX12_holds yX12_holds, Cond.code yX12_holds cX12_holds 2 (some .boolean), Cond.fieldLink RX12 61 "PetrolBoardModel" "stCond" "[I"]
def wsX12_units_r3 : List Cond := [Cond.fieldLink RX12 79 "PetrolBoardModel" "result" "[J", Cond.methodLink RX12 431 yX12_works, Cond.instanceMethod yX12_works, Cond.selects RX12 yX12_works yX12_works, Cond.code yX12_works cX12_works 10 none, Cond.fieldLink RX12 64 "PetrolBoardModel" "stFrom" "[I", Cond.fieldLink RX12 67 "PetrolBoardModel" "stTo" "[I", Cond.fieldLink RX12 70 "PetrolBoardModel" "nodeKind" "[I", Cond.fieldLink RX12 73 "PetrolBoardModel" "nodeA" "[I", Cond.fieldLink RX12 76 "PetrolBoardModel" "nodeB" "[I", Cond.methodLink RX12 427 yX12_held, Cond.static yX12_held, Cond.code yX12_held cX12_held 2 (some .long), Cond.constantLong RX12 423 (1000000000), Cond.constantLong RX12 425 (-1000000000), Cond.methodLink RX12 443 yX12_first, Cond.instanceMethod yX12_first, Cond.selects RX12 yX12_first yX12_first, Cond.code yX12_first cX12_first 6 (some .int), Cond.fieldLink RX12 58 "PetrolBoardModel" "stEx" "[I", Cond.constantLong RX12 437 (99)]
def wsX12_units : List Cond := .code yX12_units cX12_units 4 (some .int) :: ((wsX12_units_r1 ++ (wsX12_units_r2 ++ wsX12_units_r3)) ++ wsX120)
def wsX12_isCoupon : List Cond := .code yX12_isCoupon cX12_isCoupon 2 (some .boolean) :: ([.constant RX12 109 (72000), .fieldLink RX12 106 "PetrolBoardModel" "issued" "[I"] ++ wsX120)
def wsX12_heldBy : List Cond := .code yX12_heldBy cX12_heldBy 2 (some .int) :: ([.fieldLink RX12 110 "PetrolBoardModel" "lentTo" "[I"] ++ wsX120)
def wsX12_issue_r1 : List Cond := [Cond.fieldLink RX12 232 "PetrolBoardModel" "today" "I", Cond.fieldLink RX12 106 "PetrolBoardModel" "issued" "[I", Cond.fieldLink RX12 449 "PetrolBoardModel" "books" "I", Cond.methodLink RX12 239 yX12_isHolder, Cond.instanceMethod yX12_isHolder, Cond.selects RX12 yX12_isHolder yX12_isHolder, Cond.initialized RX12, Cond.code yX12_isHolder cX12_isHolder 2 (some .boolean), Cond.fieldLink RX12 229 "PetrolBoardModel" "holders" "I", Cond.methodLink RX12 405 yX12_isMonth, Cond.static yX12_isMonth, Cond.code yX12_isMonth cX12_isMonth 1 (some .boolean), Cond.methodLink RX12 446 yX12_unitsOf, Cond.instanceMethod yX12_unitsOf, Cond.selects RX12 yX12_unitsOf yX12_unitsOf, Cond.code yX12_unitsOf cX12_unitsOf 6 (some .int), Cond.fieldLink RX12 40 "PetrolBoardModel" "textFirst" "[I", Cond.fieldLink RX12 43 "PetrolBoardModel" "textMany" "[I", Cond.fieldLink RX12 52 "PetrolBoardModel" "stRule" "[I", Cond.methodLink RX12 249 yX12_kindOn, Cond.instanceMethod yX12_kindOn, Cond.selects RX12 yX12_kindOn yX12_kindOn, Cond.code yX12_kindOn cX12_kindOn 6 (some .int), Cond.fieldLink RX12 246 "PetrolBoardModel" "notes" "I"]
def wsX12_issue_r2 : List Cond := [Cond.fieldLink RX12 25 "PetrolBoardModel" "noteWho" "[I", Cond.fieldLink RX12 31 "PetrolBoardModel" "noteFrom" "[I", Cond.fieldLink RX12 34 "PetrolBoardModel" "noteTold" "[I", Cond.fieldLink RX12 37 "PetrolBoardModel" "noteGone" "[I", Cond.fieldLink RX12 28 "PetrolBoardModel" "noteClass" "[I", Cond.methodLink RX12 439 yX12_asked, Cond.instanceMethod yX12_asked, Cond.selects RX12 yX12_asked yX12_asked, Cond.code yX12_asked cX12_asked 7 none, Cond.fieldLink RX12 103 "PetrolBoardModel" "asks" "[J", Cond.fieldLink RX12 7 "PetrolBoardModel" "sizeOf" "[I", Cond.fieldLink RX12 13 "PetrolBoardModel" "townOf" "[I", Cond.methodLink RX12 417 yX12_inForce, Cond.instanceMethod yX12_inForce, Cond.selects RX12 yX12_inForce yX12_inForce, Cond.code yX12_inForce cX12_inForce 5 (some .int), Cond.fieldLink RX12 408 "PetrolBoardModel" "texts" "I", Cond.fieldLink RX12 49 "PetrolBoardModel" "textTold" "[I", Cond.fieldLink RX12 46 "PetrolBoardModel" "textMonth" "[I", Cond.methodLink RX12 434 yX12_holds, Cond.instanceMethod yX12_holds, Cond.selects RX12 yX12_holds yX12_holds, Cond.code yX12_holds cX12_holds 2 (some .boolean), Cond.fieldLink RX12 61 "PetrolBoardModel" "stCond" "[I"]
def wsX12_issue_r3 : List Cond := [Cond.fieldLink RX12 79 "PetrolBoardModel" "result" "[J", Cond.methodLink RX12 431 yX12_works, Cond.instanceMethod yX12_works, Cond.selects RX12 yX12_works yX12_works, Cond.code yX12_works cX12_works 10 none, Cond.fieldLink RX12 64 "PetrolBoardModel" "stFrom" "[I", Cond.fieldLink RX12 67 "PetrolBoardModel" "stTo" "[I", Cond.fieldLink RX12 70 "PetrolBoardModel" "nodeKind" "[I", Cond.fieldLink RX12 73 "PetrolBoardModel" "nodeA" "[I", Cond.fieldLink RX12 76 "PetrolBoardModel" "nodeB" "[I", Cond.methodLink RX12 427 yX12_held, Cond.static yX12_held, Cond.code yX12_held cX12_held 2 (some .long), Cond.constantLong RX12 423 (1000000000), Cond.constantLong RX12 425 (-1000000000), Cond.methodLink RX12 443 yX12_first, Cond.instanceMethod yX12_first, Cond.selects RX12 yX12_first yX12_first, Cond.code yX12_first cX12_first 6 (some .int), Cond.fieldLink RX12 58 "PetrolBoardModel" "stEx" "[I", Cond.constantLong RX12 437 (99)]
def wsX12_issue : List Cond := .code yX12_issue cX12_issue 4 (some .int) :: ((wsX12_issue_r1 ++ (wsX12_issue_r2 ++ wsX12_issue_r3)) ++ wsX120)
def wsX12_lend_r1 : List Cond := [Cond.fieldLink RX12 110 "PetrolBoardModel" "lentTo" "[I", Cond.fieldLink RX12 114 "PetrolBoardModel" "wasIn" "[Z", Cond.fieldLink RX12 232 "PetrolBoardModel" "today" "I", Cond.fieldLink RX12 455 "PetrolBoardModel" "lentAll" "I", Cond.methodLink RX12 452 yX12_isCoupon, Cond.instanceMethod yX12_isCoupon, Cond.selects RX12 yX12_isCoupon yX12_isCoupon, Cond.initialized RX12, Cond.code yX12_isCoupon cX12_isCoupon 2 (some .boolean), Cond.constant RX12 109 (72000), Cond.fieldLink RX12 106 "PetrolBoardModel" "issued" "[I", Cond.methodLink RX12 239 yX12_isHolder, Cond.instanceMethod yX12_isHolder, Cond.selects RX12 yX12_isHolder yX12_isHolder, Cond.code yX12_isHolder cX12_isHolder 2 (some .boolean), Cond.fieldLink RX12 229 "PetrolBoardModel" "holders" "I", Cond.methodLink RX12 420 yX12_number, Cond.instanceMethod yX12_number, Cond.selects RX12 yX12_number yX12_number, Cond.code yX12_number cX12_number 7 (some .int), Cond.fieldLink RX12 40 "PetrolBoardModel" "textFirst" "[I", Cond.fieldLink RX12 43 "PetrolBoardModel" "textMany" "[I", Cond.fieldLink RX12 52 "PetrolBoardModel" "stRule" "[I", Cond.fieldLink RX12 55 "PetrolBoardModel" "stNumber" "[I"]
def wsX12_lend_r2 : List Cond := [Cond.methodLink RX12 417 yX12_inForce, Cond.instanceMethod yX12_inForce, Cond.selects RX12 yX12_inForce yX12_inForce, Cond.code yX12_inForce cX12_inForce 5 (some .int), Cond.fieldLink RX12 408 "PetrolBoardModel" "texts" "I", Cond.fieldLink RX12 49 "PetrolBoardModel" "textTold" "[I", Cond.fieldLink RX12 46 "PetrolBoardModel" "textMonth" "[I"]
def wsX12_lend : List Cond := .code yX12_lend cX12_lend 6 (some .boolean) :: ((wsX12_lend_r1 ++ wsX12_lend_r2) ++ wsX120)
def wsX12_owner : List Cond := .code yX12_owner cX12_owner 2 (some .int) :: ([.methodLink RX12 452 yX12_isCoupon, .instanceMethod yX12_isCoupon, .selects RX12 yX12_isCoupon yX12_isCoupon, .initialized RX12, .code yX12_isCoupon cX12_isCoupon 2 (some .boolean), .constant RX12 109 (72000), .fieldLink RX12 106 "PetrolBoardModel" "issued" "[I", .methodLink RX12 458 yX12_heldBy, .instanceMethod yX12_heldBy, .selects RX12 yX12_heldBy yX12_heldBy, .code yX12_heldBy cX12_heldBy 2 (some .int), .fieldLink RX12 110 "PetrolBoardModel" "lentTo" "[I"] ++ wsX120)
def wsX12_isStation : List Cond := .code yX12_isStation cX12_isStation 2 (some .boolean) :: ([.fieldLink RX12 461 "PetrolBoardModel" "stations" "I"] ++ wsX120)
def wsX12_station : List Cond := .code yX12_station cX12_station 1 (some .int) :: ([.fieldLink RX12 461 "PetrolBoardModel" "stations" "I"] ++ wsX120)
def wsX12_pour_r1 : List Cond := [Cond.constant RX12 467 (99999), Cond.fieldLink RX12 468 "PetrolBoardModel" "pours" "I", Cond.fieldLink RX12 118 "PetrolBoardModel" "pourAt" "[I", Cond.fieldLink RX12 121 "PetrolBoardModel" "pourWho" "[I", Cond.fieldLink RX12 124 "PetrolBoardModel" "pourCoupon" "[I", Cond.fieldLink RX12 127 "PetrolBoardModel" "pourDay" "[I", Cond.fieldLink RX12 232 "PetrolBoardModel" "today" "I", Cond.fieldLink RX12 130 "PetrolBoardModel" "pourTenths" "[I", Cond.fieldLink RX12 133 "PetrolBoardModel" "pourOwner" "[I", Cond.fieldLink RX12 136 "PetrolBoardModel" "pourJudged" "[I", Cond.fieldLink RX12 142 "PetrolBoardModel" "pourDyed" "[Z", Cond.fieldLink RX12 139 "PetrolBoardModel" "pourCome" "[I", Cond.fieldLink RX12 471 "PetrolBoardModel" "comes" "I", Cond.methodLink RX12 464 yX12_isStation, Cond.instanceMethod yX12_isStation, Cond.selects RX12 yX12_isStation yX12_isStation, Cond.initialized RX12, Cond.code yX12_isStation cX12_isStation 2 (some .boolean), Cond.fieldLink RX12 461 "PetrolBoardModel" "stations" "I", Cond.methodLink RX12 239 yX12_isHolder, Cond.instanceMethod yX12_isHolder, Cond.selects RX12 yX12_isHolder yX12_isHolder, Cond.code yX12_isHolder cX12_isHolder 2 (some .boolean), Cond.fieldLink RX12 229 "PetrolBoardModel" "holders" "I"]
def wsX12_pour_r2 : List Cond := [Cond.methodLink RX12 235 yX12_within, Cond.static yX12_within, Cond.code yX12_within cX12_within 3 (some .boolean), Cond.methodLink RX12 420 yX12_number, Cond.instanceMethod yX12_number, Cond.selects RX12 yX12_number yX12_number, Cond.code yX12_number cX12_number 7 (some .int), Cond.fieldLink RX12 40 "PetrolBoardModel" "textFirst" "[I", Cond.fieldLink RX12 43 "PetrolBoardModel" "textMany" "[I", Cond.fieldLink RX12 52 "PetrolBoardModel" "stRule" "[I", Cond.fieldLink RX12 55 "PetrolBoardModel" "stNumber" "[I", Cond.methodLink RX12 417 yX12_inForce, Cond.instanceMethod yX12_inForce, Cond.selects RX12 yX12_inForce yX12_inForce, Cond.code yX12_inForce cX12_inForce 5 (some .int), Cond.fieldLink RX12 408 "PetrolBoardModel" "texts" "I", Cond.fieldLink RX12 49 "PetrolBoardModel" "textTold" "[I", Cond.fieldLink RX12 46 "PetrolBoardModel" "textMonth" "[I", Cond.methodLink RX12 452 yX12_isCoupon, Cond.instanceMethod yX12_isCoupon, Cond.selects RX12 yX12_isCoupon yX12_isCoupon, Cond.code yX12_isCoupon cX12_isCoupon 2 (some .boolean), Cond.constant RX12 109 (72000), Cond.fieldLink RX12 106 "PetrolBoardModel" "issued" "[I"]
def wsX12_pour_r3 : List Cond := [Cond.methodLink RX12 458 yX12_heldBy, Cond.instanceMethod yX12_heldBy, Cond.selects RX12 yX12_heldBy yX12_heldBy, Cond.code yX12_heldBy cX12_heldBy 2 (some .int), Cond.fieldLink RX12 110 "PetrolBoardModel" "lentTo" "[I", Cond.methodLink RX12 249 yX12_kindOn, Cond.instanceMethod yX12_kindOn, Cond.selects RX12 yX12_kindOn yX12_kindOn, Cond.code yX12_kindOn cX12_kindOn 6 (some .int), Cond.fieldLink RX12 246 "PetrolBoardModel" "notes" "I", Cond.fieldLink RX12 25 "PetrolBoardModel" "noteWho" "[I", Cond.fieldLink RX12 31 "PetrolBoardModel" "noteFrom" "[I", Cond.fieldLink RX12 34 "PetrolBoardModel" "noteTold" "[I", Cond.fieldLink RX12 37 "PetrolBoardModel" "noteGone" "[I", Cond.fieldLink RX12 28 "PetrolBoardModel" "noteClass" "[I"]
def wsX12_pour : List Cond := .code yX12_pour cX12_pour 4 (some .int) :: ((wsX12_pour_r1 ++ (wsX12_pour_r2 ++ wsX12_pour_r3)) ++ wsX120)
def wsX12_judges_r1 : List Cond := [Cond.fieldLink RX12 124 "PetrolBoardModel" "pourCoupon" "[I", Cond.fieldLink RX12 114 "PetrolBoardModel" "wasIn" "[Z", Cond.fieldLink RX12 127 "PetrolBoardModel" "pourDay" "[I", Cond.fieldLink RX12 133 "PetrolBoardModel" "pourOwner" "[I", Cond.fieldLink RX12 121 "PetrolBoardModel" "pourWho" "[I", Cond.methodLink RX12 452 yX12_isCoupon, Cond.instanceMethod yX12_isCoupon, Cond.selects RX12 yX12_isCoupon yX12_isCoupon, Cond.initialized RX12, Cond.code yX12_isCoupon cX12_isCoupon 2 (some .boolean), Cond.constant RX12 109 (72000), Cond.fieldLink RX12 106 "PetrolBoardModel" "issued" "[I", Cond.methodLink RX12 420 yX12_number, Cond.instanceMethod yX12_number, Cond.selects RX12 yX12_number yX12_number, Cond.code yX12_number cX12_number 7 (some .int), Cond.fieldLink RX12 40 "PetrolBoardModel" "textFirst" "[I", Cond.fieldLink RX12 43 "PetrolBoardModel" "textMany" "[I", Cond.fieldLink RX12 52 "PetrolBoardModel" "stRule" "[I", Cond.fieldLink RX12 55 "PetrolBoardModel" "stNumber" "[I", Cond.methodLink RX12 417 yX12_inForce, Cond.instanceMethod yX12_inForce, Cond.selects RX12 yX12_inForce yX12_inForce, Cond.code yX12_inForce cX12_inForce 5 (some .int)]
def wsX12_judges_r2 : List Cond := [Cond.fieldLink RX12 408 "PetrolBoardModel" "texts" "I", Cond.fieldLink RX12 49 "PetrolBoardModel" "textTold" "[I", Cond.fieldLink RX12 46 "PetrolBoardModel" "textMonth" "[I"]
def wsX12_judges : List Cond := .code yX12_judges cX12_judges 5 (some .int) :: ((wsX12_judges_r1 ++ wsX12_judges_r2) ++ wsX120)
def wsX12_handIn_r1 : List Cond := [Cond.fieldLink RX12 468 "PetrolBoardModel" "pours" "I", Cond.fieldLink RX12 118 "PetrolBoardModel" "pourAt" "[I", Cond.fieldLink RX12 136 "PetrolBoardModel" "pourJudged" "[I", Cond.fieldLink RX12 114 "PetrolBoardModel" "wasIn" "[Z", Cond.fieldLink RX12 124 "PetrolBoardModel" "pourCoupon" "[I", Cond.methodLink RX12 464 yX12_isStation, Cond.instanceMethod yX12_isStation, Cond.selects RX12 yX12_isStation yX12_isStation, Cond.initialized RX12, Cond.code yX12_isStation cX12_isStation 2 (some .boolean), Cond.fieldLink RX12 461 "PetrolBoardModel" "stations" "I", Cond.methodLink RX12 474 yX12_judges, Cond.instanceMethod yX12_judges, Cond.selects RX12 yX12_judges yX12_judges, Cond.code yX12_judges cX12_judges 5 (some .int), Cond.fieldLink RX12 127 "PetrolBoardModel" "pourDay" "[I", Cond.fieldLink RX12 133 "PetrolBoardModel" "pourOwner" "[I", Cond.fieldLink RX12 121 "PetrolBoardModel" "pourWho" "[I", Cond.methodLink RX12 452 yX12_isCoupon, Cond.instanceMethod yX12_isCoupon, Cond.selects RX12 yX12_isCoupon yX12_isCoupon, Cond.code yX12_isCoupon cX12_isCoupon 2 (some .boolean), Cond.constant RX12 109 (72000), Cond.fieldLink RX12 106 "PetrolBoardModel" "issued" "[I"]
def wsX12_handIn_r2 : List Cond := [Cond.methodLink RX12 420 yX12_number, Cond.instanceMethod yX12_number, Cond.selects RX12 yX12_number yX12_number, Cond.code yX12_number cX12_number 7 (some .int), Cond.fieldLink RX12 40 "PetrolBoardModel" "textFirst" "[I", Cond.fieldLink RX12 43 "PetrolBoardModel" "textMany" "[I", Cond.fieldLink RX12 52 "PetrolBoardModel" "stRule" "[I", Cond.fieldLink RX12 55 "PetrolBoardModel" "stNumber" "[I", Cond.methodLink RX12 417 yX12_inForce, Cond.instanceMethod yX12_inForce, Cond.selects RX12 yX12_inForce yX12_inForce, Cond.code yX12_inForce cX12_inForce 5 (some .int), Cond.fieldLink RX12 408 "PetrolBoardModel" "texts" "I", Cond.fieldLink RX12 49 "PetrolBoardModel" "textTold" "[I", Cond.fieldLink RX12 46 "PetrolBoardModel" "textMonth" "[I"]
def wsX12_handIn : List Cond := .code yX12_handIn cX12_handIn 4 (some .int) :: ((wsX12_handIn_r1 ++ wsX12_handIn_r2) ++ wsX120)
def wsX12_poured : List Cond := .code yX12_poured cX12_poured 3 (some .int) :: ([.fieldLink RX12 468 "PetrolBoardModel" "pours" "I", .fieldLink RX12 118 "PetrolBoardModel" "pourAt" "[I", .fieldLink RX12 121 "PetrolBoardModel" "pourWho" "[I", .fieldLink RX12 124 "PetrolBoardModel" "pourCoupon" "[I", .fieldLink RX12 127 "PetrolBoardModel" "pourDay" "[I", .fieldLink RX12 130 "PetrolBoardModel" "pourTenths" "[I", .fieldLink RX12 136 "PetrolBoardModel" "pourJudged" "[I", .fieldLink RX12 142 "PetrolBoardModel" "pourDyed" "[Z"] ++ wsX120)
def wsX12_found : List Cond := .code yX12_found cX12_found 4 (some .int) :: ([.fieldLink RX12 468 "PetrolBoardModel" "pours" "I", .fieldLink RX12 121 "PetrolBoardModel" "pourWho" "[I", .fieldLink RX12 142 "PetrolBoardModel" "pourDyed" "[Z", .fieldLink RX12 232 "PetrolBoardModel" "today" "I", .methodLink RX12 239 yX12_isHolder, .instanceMethod yX12_isHolder, .selects RX12 yX12_isHolder yX12_isHolder, .initialized RX12, .code yX12_isHolder cX12_isHolder 2 (some .boolean), .fieldLink RX12 229 "PetrolBoardModel" "holders" "I", .methodLink RX12 249 yX12_kindOn, .instanceMethod yX12_kindOn, .selects RX12 yX12_kindOn yX12_kindOn, .code yX12_kindOn cX12_kindOn 6 (some .int), .fieldLink RX12 246 "PetrolBoardModel" "notes" "I", .fieldLink RX12 25 "PetrolBoardModel" "noteWho" "[I", .fieldLink RX12 31 "PetrolBoardModel" "noteFrom" "[I", .fieldLink RX12 34 "PetrolBoardModel" "noteTold" "[I", .fieldLink RX12 37 "PetrolBoardModel" "noteGone" "[I", .fieldLink RX12 28 "PetrolBoardModel" "noteClass" "[I"] ++ wsX120)
def wsX12_deliver : List Cond := .code yX12_deliver cX12_deliver 3 (some .int) :: ([.constant RX12 113 (100000), .fieldLink RX12 145 "PetrolBoardModel" "givenMany" "[I", .fieldLink RX12 151 "PetrolBoardModel" "given" "[I", .fieldLink RX12 154 "PetrolBoardModel" "givenCome" "[I", .fieldLink RX12 471 "PetrolBoardModel" "comes" "I", .fieldLink RX12 148 "PetrolBoardModel" "givenSum" "[I", .methodLink RX12 464 yX12_isStation, .instanceMethod yX12_isStation, .selects RX12 yX12_isStation yX12_isStation, .initialized RX12, .code yX12_isStation cX12_isStation 2 (some .boolean), .fieldLink RX12 461 "PetrolBoardModel" "stations" "I", .methodLink RX12 235 yX12_within, .static yX12_within, .code yX12_within cX12_within 3 (some .boolean)] ++ wsX120)
def wsX12_dip : List Cond := .code yX12_dip cX12_dip 4 (some .int) :: ([.constant RX12 477 (200000), .fieldLink RX12 157 "PetrolBoardModel" "dipMany" "[I", .fieldLink RX12 160 "PetrolBoardModel" "dipTold" "[I", .fieldLink RX12 163 "PetrolBoardModel" "dipDay" "[I", .fieldLink RX12 232 "PetrolBoardModel" "today" "I", .fieldLink RX12 166 "PetrolBoardModel" "dipCome" "[I", .fieldLink RX12 471 "PetrolBoardModel" "comes" "I", .methodLink RX12 464 yX12_isStation, .instanceMethod yX12_isStation, .selects RX12 yX12_isStation yX12_isStation, .initialized RX12, .code yX12_isStation cX12_isStation 2 (some .boolean), .fieldLink RX12 461 "PetrolBoardModel" "stations" "I", .methodLink RX12 235 yX12_within, .static yX12_within, .code yX12_within cX12_within 3 (some .boolean)] ++ wsX120)
def wsX12_inOf_r1 : List Cond := [Cond.fieldLink RX12 145 "PetrolBoardModel" "givenMany" "[I", Cond.fieldLink RX12 154 "PetrolBoardModel" "givenCome" "[I", Cond.fieldLink RX12 166 "PetrolBoardModel" "dipCome" "[I", Cond.fieldLink RX12 151 "PetrolBoardModel" "given" "[I", Cond.fieldLink RX12 468 "PetrolBoardModel" "pours" "I", Cond.fieldLink RX12 136 "PetrolBoardModel" "pourJudged" "[I", Cond.fieldLink RX12 118 "PetrolBoardModel" "pourAt" "[I", Cond.fieldLink RX12 139 "PetrolBoardModel" "pourCome" "[I", Cond.fieldLink RX12 130 "PetrolBoardModel" "pourTenths" "[I", Cond.fieldLink RX12 163 "PetrolBoardModel" "dipDay" "[I", Cond.fieldLink RX12 232 "PetrolBoardModel" "today" "I", Cond.methodLink RX12 420 yX12_number, Cond.instanceMethod yX12_number, Cond.selects RX12 yX12_number yX12_number, Cond.initialized RX12, Cond.code yX12_number cX12_number 7 (some .int), Cond.fieldLink RX12 40 "PetrolBoardModel" "textFirst" "[I", Cond.fieldLink RX12 43 "PetrolBoardModel" "textMany" "[I", Cond.fieldLink RX12 52 "PetrolBoardModel" "stRule" "[I", Cond.fieldLink RX12 55 "PetrolBoardModel" "stNumber" "[I", Cond.methodLink RX12 417 yX12_inForce, Cond.instanceMethod yX12_inForce, Cond.selects RX12 yX12_inForce yX12_inForce, Cond.code yX12_inForce cX12_inForce 5 (some .int)]
def wsX12_inOf_r2 : List Cond := [Cond.fieldLink RX12 408 "PetrolBoardModel" "texts" "I", Cond.fieldLink RX12 49 "PetrolBoardModel" "textTold" "[I", Cond.fieldLink RX12 46 "PetrolBoardModel" "textMonth" "[I"]
def wsX12_inOf : List Cond := .code yX12_inOf cX12_inOf 8 (some .long) :: ((wsX12_inOf_r1 ++ wsX12_inOf_r2) ++ wsX120)
def wsX12_in_r1 : List Cond := [Cond.fieldLink RX12 157 "PetrolBoardModel" "dipMany" "[I", Cond.constant RX12 482 (-2000000000), Cond.methodLink RX12 464 yX12_isStation, Cond.instanceMethod yX12_isStation, Cond.selects RX12 yX12_isStation yX12_isStation, Cond.initialized RX12, Cond.code yX12_isStation cX12_isStation 2 (some .boolean), Cond.fieldLink RX12 461 "PetrolBoardModel" "stations" "I", Cond.methodLink RX12 478 yX12_inOf, Cond.instanceMethod yX12_inOf, Cond.selects RX12 yX12_inOf yX12_inOf, Cond.code yX12_inOf cX12_inOf 8 (some .long), Cond.fieldLink RX12 145 "PetrolBoardModel" "givenMany" "[I", Cond.fieldLink RX12 154 "PetrolBoardModel" "givenCome" "[I", Cond.fieldLink RX12 166 "PetrolBoardModel" "dipCome" "[I", Cond.fieldLink RX12 151 "PetrolBoardModel" "given" "[I", Cond.fieldLink RX12 468 "PetrolBoardModel" "pours" "I", Cond.fieldLink RX12 136 "PetrolBoardModel" "pourJudged" "[I", Cond.fieldLink RX12 118 "PetrolBoardModel" "pourAt" "[I", Cond.fieldLink RX12 139 "PetrolBoardModel" "pourCome" "[I", Cond.fieldLink RX12 130 "PetrolBoardModel" "pourTenths" "[I", Cond.fieldLink RX12 163 "PetrolBoardModel" "dipDay" "[I", Cond.fieldLink RX12 232 "PetrolBoardModel" "today" "I", Cond.methodLink RX12 420 yX12_number]
def wsX12_in_r2 : List Cond := [Cond.instanceMethod yX12_number, Cond.selects RX12 yX12_number yX12_number, Cond.code yX12_number cX12_number 7 (some .int), Cond.fieldLink RX12 40 "PetrolBoardModel" "textFirst" "[I", Cond.fieldLink RX12 43 "PetrolBoardModel" "textMany" "[I", Cond.fieldLink RX12 52 "PetrolBoardModel" "stRule" "[I", Cond.fieldLink RX12 55 "PetrolBoardModel" "stNumber" "[I", Cond.methodLink RX12 417 yX12_inForce, Cond.instanceMethod yX12_inForce, Cond.selects RX12 yX12_inForce yX12_inForce, Cond.code yX12_inForce cX12_inForce 5 (some .int), Cond.fieldLink RX12 408 "PetrolBoardModel" "texts" "I", Cond.fieldLink RX12 49 "PetrolBoardModel" "textTold" "[I", Cond.fieldLink RX12 46 "PetrolBoardModel" "textMonth" "[I"]
def wsX12_in : List Cond := .code yX12_in cX12_in 3 (some .int) :: ((wsX12_in_r1 ++ wsX12_in_r2) ++ wsX120)
def wsX12_lowOf : List Cond := .code yX12_lowOf cX12_lowOf 4 (some .long) :: ([.fieldLink RX12 160 "PetrolBoardModel" "dipTold" "[I", .fieldLink RX12 163 "PetrolBoardModel" "dipDay" "[I", .fieldLink RX12 232 "PetrolBoardModel" "today" "I", .methodLink RX12 420 yX12_number, .instanceMethod yX12_number, .selects RX12 yX12_number yX12_number, .initialized RX12, .code yX12_number cX12_number 7 (some .int), .fieldLink RX12 40 "PetrolBoardModel" "textFirst" "[I", .fieldLink RX12 43 "PetrolBoardModel" "textMany" "[I", .fieldLink RX12 52 "PetrolBoardModel" "stRule" "[I", .fieldLink RX12 55 "PetrolBoardModel" "stNumber" "[I", .methodLink RX12 417 yX12_inForce, .instanceMethod yX12_inForce, .selects RX12 yX12_inForce yX12_inForce, .code yX12_inForce cX12_inForce 5 (some .int), .fieldLink RX12 408 "PetrolBoardModel" "texts" "I", .fieldLink RX12 49 "PetrolBoardModel" "textTold" "[I", .fieldLink RX12 46 "PetrolBoardModel" "textMonth" "[I"] ++ wsX120)
def wsX12_highOf : List Cond := .code yX12_highOf cX12_highOf 2 (some .long) :: ([.fieldLink RX12 160 "PetrolBoardModel" "dipTold" "[I", .fieldLink RX12 163 "PetrolBoardModel" "dipDay" "[I", .fieldLink RX12 232 "PetrolBoardModel" "today" "I", .methodLink RX12 420 yX12_number, .instanceMethod yX12_number, .selects RX12 yX12_number yX12_number, .initialized RX12, .code yX12_number cX12_number 7 (some .int), .fieldLink RX12 40 "PetrolBoardModel" "textFirst" "[I", .fieldLink RX12 43 "PetrolBoardModel" "textMany" "[I", .fieldLink RX12 52 "PetrolBoardModel" "stRule" "[I", .fieldLink RX12 55 "PetrolBoardModel" "stNumber" "[I", .methodLink RX12 417 yX12_inForce, .instanceMethod yX12_inForce, .selects RX12 yX12_inForce yX12_inForce, .code yX12_inForce cX12_inForce 5 (some .int), .fieldLink RX12 408 "PetrolBoardModel" "texts" "I", .fieldLink RX12 49 "PetrolBoardModel" "textTold" "[I", .fieldLink RX12 46 "PetrolBoardModel" "textMonth" "[I"] ++ wsX120)
def wsX12_sums__r1 : List Cond := [Cond.fieldLink RX12 157 "PetrolBoardModel" "dipMany" "[I", Cond.constantLong RX12 269 (-1), Cond.constantLong RX12 490 (-3), Cond.methodLink RX12 464 yX12_isStation, Cond.instanceMethod yX12_isStation, Cond.selects RX12 yX12_isStation yX12_isStation, Cond.initialized RX12, Cond.code yX12_isStation cX12_isStation 2 (some .boolean), Cond.fieldLink RX12 461 "PetrolBoardModel" "stations" "I", Cond.methodLink RX12 235 yX12_within, Cond.static yX12_within, Cond.code yX12_within cX12_within 3 (some .boolean), Cond.methodLink RX12 483 yX12_highOf, Cond.instanceMethod yX12_highOf, Cond.selects RX12 yX12_highOf yX12_highOf, Cond.code yX12_highOf cX12_highOf 2 (some .long), Cond.fieldLink RX12 160 "PetrolBoardModel" "dipTold" "[I", Cond.fieldLink RX12 163 "PetrolBoardModel" "dipDay" "[I", Cond.fieldLink RX12 232 "PetrolBoardModel" "today" "I", Cond.methodLink RX12 420 yX12_number, Cond.instanceMethod yX12_number, Cond.selects RX12 yX12_number yX12_number, Cond.code yX12_number cX12_number 7 (some .int), Cond.fieldLink RX12 40 "PetrolBoardModel" "textFirst" "[I"]
def wsX12_sums__r2 : List Cond := [Cond.fieldLink RX12 43 "PetrolBoardModel" "textMany" "[I", Cond.fieldLink RX12 52 "PetrolBoardModel" "stRule" "[I", Cond.fieldLink RX12 55 "PetrolBoardModel" "stNumber" "[I", Cond.methodLink RX12 417 yX12_inForce, Cond.instanceMethod yX12_inForce, Cond.selects RX12 yX12_inForce yX12_inForce, Cond.code yX12_inForce cX12_inForce 5 (some .int), Cond.fieldLink RX12 408 "PetrolBoardModel" "texts" "I", Cond.fieldLink RX12 49 "PetrolBoardModel" "textTold" "[I", Cond.fieldLink RX12 46 "PetrolBoardModel" "textMonth" "[I", Cond.methodLink RX12 487 yX12_lowOf, Cond.instanceMethod yX12_lowOf, Cond.selects RX12 yX12_lowOf yX12_lowOf, Cond.code yX12_lowOf cX12_lowOf 4 (some .long), Cond.methodLink RX12 478 yX12_inOf, Cond.instanceMethod yX12_inOf, Cond.selects RX12 yX12_inOf yX12_inOf, Cond.code yX12_inOf cX12_inOf 8 (some .long), Cond.fieldLink RX12 145 "PetrolBoardModel" "givenMany" "[I", Cond.fieldLink RX12 154 "PetrolBoardModel" "givenCome" "[I", Cond.fieldLink RX12 166 "PetrolBoardModel" "dipCome" "[I", Cond.fieldLink RX12 151 "PetrolBoardModel" "given" "[I", Cond.fieldLink RX12 468 "PetrolBoardModel" "pours" "I", Cond.fieldLink RX12 136 "PetrolBoardModel" "pourJudged" "[I"]
def wsX12_sums__r3 : List Cond := [Cond.fieldLink RX12 118 "PetrolBoardModel" "pourAt" "[I", Cond.fieldLink RX12 139 "PetrolBoardModel" "pourCome" "[I", Cond.fieldLink RX12 130 "PetrolBoardModel" "pourTenths" "[I"]
def wsX12_sums_ : List Cond := .code yX12_sums_ cX12_sums_ 18 (some .long) :: ((wsX12_sums__r1 ++ (wsX12_sums__r2 ++ wsX12_sums__r3)) ++ wsX120)
def wsX12_level : List Cond := .code yX12_level cX12_level 3 (some .boolean) :: ([.constant RX12 492 (300000), .fieldLink RX12 169 "PetrolBoardModel" "levels" "[I", .methodLink RX12 235 yX12_within, .static yX12_within, .initialized RX12, .code yX12_within cX12_within 3 (some .boolean)] ++ wsX120)
def wsX12_judged_r1 : List Cond := [Cond.fieldLink RX12 157 "PetrolBoardModel" "dipMany" "[I", Cond.constantLong RX12 269 (-1), Cond.fieldLink RX12 169 "PetrolBoardModel" "levels" "[I", Cond.methodLink RX12 464 yX12_isStation, Cond.instanceMethod yX12_isStation, Cond.selects RX12 yX12_isStation yX12_isStation, Cond.initialized RX12, Cond.code yX12_isStation cX12_isStation 2 (some .boolean), Cond.fieldLink RX12 461 "PetrolBoardModel" "stations" "I", Cond.methodLink RX12 487 yX12_lowOf, Cond.instanceMethod yX12_lowOf, Cond.selects RX12 yX12_lowOf yX12_lowOf, Cond.code yX12_lowOf cX12_lowOf 4 (some .long), Cond.fieldLink RX12 160 "PetrolBoardModel" "dipTold" "[I", Cond.fieldLink RX12 163 "PetrolBoardModel" "dipDay" "[I", Cond.fieldLink RX12 232 "PetrolBoardModel" "today" "I", Cond.methodLink RX12 420 yX12_number, Cond.instanceMethod yX12_number, Cond.selects RX12 yX12_number yX12_number, Cond.code yX12_number cX12_number 7 (some .int), Cond.fieldLink RX12 40 "PetrolBoardModel" "textFirst" "[I", Cond.fieldLink RX12 43 "PetrolBoardModel" "textMany" "[I", Cond.fieldLink RX12 52 "PetrolBoardModel" "stRule" "[I", Cond.fieldLink RX12 55 "PetrolBoardModel" "stNumber" "[I"]
def wsX12_judged_r2 : List Cond := [Cond.methodLink RX12 417 yX12_inForce, Cond.instanceMethod yX12_inForce, Cond.selects RX12 yX12_inForce yX12_inForce, Cond.code yX12_inForce cX12_inForce 5 (some .int), Cond.fieldLink RX12 408 "PetrolBoardModel" "texts" "I", Cond.fieldLink RX12 49 "PetrolBoardModel" "textTold" "[I", Cond.fieldLink RX12 46 "PetrolBoardModel" "textMonth" "[I", Cond.methodLink RX12 483 yX12_highOf, Cond.instanceMethod yX12_highOf, Cond.selects RX12 yX12_highOf yX12_highOf, Cond.code yX12_highOf cX12_highOf 2 (some .long), Cond.methodLink RX12 478 yX12_inOf, Cond.instanceMethod yX12_inOf, Cond.selects RX12 yX12_inOf yX12_inOf, Cond.code yX12_inOf cX12_inOf 8 (some .long), Cond.fieldLink RX12 145 "PetrolBoardModel" "givenMany" "[I", Cond.fieldLink RX12 154 "PetrolBoardModel" "givenCome" "[I", Cond.fieldLink RX12 166 "PetrolBoardModel" "dipCome" "[I", Cond.fieldLink RX12 151 "PetrolBoardModel" "given" "[I", Cond.fieldLink RX12 468 "PetrolBoardModel" "pours" "I", Cond.fieldLink RX12 136 "PetrolBoardModel" "pourJudged" "[I", Cond.fieldLink RX12 118 "PetrolBoardModel" "pourAt" "[I", Cond.fieldLink RX12 139 "PetrolBoardModel" "pourCome" "[I", Cond.fieldLink RX12 130 "PetrolBoardModel" "pourTenths" "[I"]
def wsX12_judged : List Cond := .code yX12_judged cX12_judged 10 (some .long) :: ((wsX12_judged_r1 ++ wsX12_judged_r2) ++ wsX120)
def wsX12_port : List Cond := .code yX12_port cX12_port 2 (some .int) :: ([.fieldLink RX12 493 "PetrolBoardModel" "ports" "I", .fieldLink RX12 172 "PetrolBoardModel" "loadsOf" "[I", .methodLink RX12 235 yX12_within, .static yX12_within, .initialized RX12, .code yX12_within cX12_within 3 (some .boolean)] ++ wsX120)
def wsX12_want : List Cond := .code yX12_want cX12_want 3 (some .boolean) :: ([.fieldLink RX12 175 "PetrolBoardModel" "wantOf" "[I", .methodLink RX12 464 yX12_isStation, .instanceMethod yX12_isStation, .selects RX12 yX12_isStation yX12_isStation, .initialized RX12, .code yX12_isStation cX12_isStation 2 (some .boolean), .fieldLink RX12 461 "PetrolBoardModel" "stations" "I", .methodLink RX12 235 yX12_within, .static yX12_within, .code yX12_within cX12_within 3 (some .boolean)] ++ wsX120)
def wsX12_road : List Cond := .code yX12_road cX12_road 4 (some .boolean) :: ([.fieldLink RX12 493 "PetrolBoardModel" "ports" "I", .fieldLink RX12 178 "PetrolBoardModel" "roadOf" "[I", .methodLink RX12 464 yX12_isStation, .instanceMethod yX12_isStation, .selects RX12 yX12_isStation yX12_isStation, .initialized RX12, .code yX12_isStation cX12_isStation 2 (some .boolean), .fieldLink RX12 461 "PetrolBoardModel" "stations" "I", .methodLink RX12 235 yX12_within, .static yX12_within, .code yX12_within cX12_within 3 (some .boolean)] ++ wsX120)
def wsX12_edge : List Cond := .code yX12_edge cX12_edge 5 none :: ([.fieldLink RX12 181 "PetrolBoardModel" "room" "[I", .fieldLink RX12 184 "PetrolBoardModel" "miles" "[I"] ++ wsX120)
def wsX12_finds : List Cond := .code yX12_finds cX12_finds 4 (some .boolean) :: ([.fieldLink RX12 187 "PetrolBoardModel" "far" "[I", .constant RX12 496 (1000000), .fieldLink RX12 181 "PetrolBoardModel" "room" "[I", .fieldLink RX12 184 "PetrolBoardModel" "miles" "[I", .fieldLink RX12 190 "PetrolBoardModel" "back" "[I"] ++ wsX120)
def wsX12_flow_r1 : List Cond := [Cond.fieldLink RX12 493 "PetrolBoardModel" "ports" "I", Cond.fieldLink RX12 181 "PetrolBoardModel" "room" "[I", Cond.fieldLink RX12 184 "PetrolBoardModel" "miles" "[I", Cond.fieldLink RX12 172 "PetrolBoardModel" "loadsOf" "[I", Cond.fieldLink RX12 461 "PetrolBoardModel" "stations" "I", Cond.fieldLink RX12 178 "PetrolBoardModel" "roadOf" "[I", Cond.fieldLink RX12 175 "PetrolBoardModel" "wantOf" "[I", Cond.fieldLink RX12 190 "PetrolBoardModel" "back" "[I", Cond.fieldLink RX12 187 "PetrolBoardModel" "far" "[I", Cond.methodLink RX12 235 yX12_within, Cond.static yX12_within, Cond.initialized RX12, Cond.code yX12_within cX12_within 3 (some .boolean), Cond.methodLink RX12 497 yX12_edge, Cond.instanceMethod yX12_edge, Cond.selects RX12 yX12_edge yX12_edge, Cond.code yX12_edge cX12_edge 5 none, Cond.methodLink RX12 501 yX12_finds, Cond.instanceMethod yX12_finds, Cond.selects RX12 yX12_finds yX12_finds, Cond.code yX12_finds cX12_finds 4 (some .boolean), Cond.constant RX12 496 (1000000), Cond.methodLink RX12 287 yX12_min, Cond.static yX12_min]
def wsX12_flow_r2 : List Cond := [Cond.code yX12_min cX12_min 2 (some .int)]
def wsX12_flow : List Cond := .code yX12_flow cX12_flow 7 (some .int) :: ((wsX12_flow_r1 ++ wsX12_flow_r2) ++ wsX120)
def wsX12_granted_r1 : List Cond := [Cond.fieldLink RX12 205 "PetrolBoardModel" "jDay" "[I", Cond.fieldLink RX12 193 "PetrolBoardModel" "jWho" "[I", Cond.fieldLink RX12 211 "PetrolBoardModel" "jAsked" "[I", Cond.fieldLink RX12 196 "PetrolBoardModel" "jMiles" "[I", Cond.fieldLink RX12 199 "PetrolBoardModel" "jPeople" "[I", Cond.fieldLink RX12 202 "PetrolBoardModel" "jReason" "[I", Cond.methodLink RX12 249 yX12_kindOn, Cond.instanceMethod yX12_kindOn, Cond.selects RX12 yX12_kindOn yX12_kindOn, Cond.initialized RX12, Cond.code yX12_kindOn cX12_kindOn 6 (some .int), Cond.fieldLink RX12 246 "PetrolBoardModel" "notes" "I", Cond.fieldLink RX12 25 "PetrolBoardModel" "noteWho" "[I", Cond.fieldLink RX12 31 "PetrolBoardModel" "noteFrom" "[I", Cond.fieldLink RX12 34 "PetrolBoardModel" "noteTold" "[I", Cond.fieldLink RX12 37 "PetrolBoardModel" "noteGone" "[I", Cond.fieldLink RX12 28 "PetrolBoardModel" "noteClass" "[I", Cond.methodLink RX12 439 yX12_asked, Cond.instanceMethod yX12_asked, Cond.selects RX12 yX12_asked yX12_asked, Cond.code yX12_asked cX12_asked 7 none, Cond.fieldLink RX12 103 "PetrolBoardModel" "asks" "[J", Cond.fieldLink RX12 7 "PetrolBoardModel" "sizeOf" "[I", Cond.fieldLink RX12 13 "PetrolBoardModel" "townOf" "[I"]
def wsX12_granted_r2 : List Cond := [Cond.methodLink RX12 417 yX12_inForce, Cond.instanceMethod yX12_inForce, Cond.selects RX12 yX12_inForce yX12_inForce, Cond.code yX12_inForce cX12_inForce 5 (some .int), Cond.fieldLink RX12 408 "PetrolBoardModel" "texts" "I", Cond.fieldLink RX12 49 "PetrolBoardModel" "textTold" "[I", Cond.fieldLink RX12 46 "PetrolBoardModel" "textMonth" "[I", Cond.methodLink RX12 443 yX12_first, Cond.instanceMethod yX12_first, Cond.selects RX12 yX12_first yX12_first, Cond.code yX12_first cX12_first 6 (some .int), Cond.fieldLink RX12 40 "PetrolBoardModel" "textFirst" "[I", Cond.fieldLink RX12 43 "PetrolBoardModel" "textMany" "[I", Cond.fieldLink RX12 52 "PetrolBoardModel" "stRule" "[I", Cond.fieldLink RX12 79 "PetrolBoardModel" "result" "[J", Cond.fieldLink RX12 58 "PetrolBoardModel" "stEx" "[I", Cond.constantLong RX12 437 (99), Cond.methodLink RX12 434 yX12_holds, Cond.instanceMethod yX12_holds, Cond.selects RX12 yX12_holds yX12_holds, Cond.code yX12_holds cX12_holds 2 (some .boolean), Cond.fieldLink RX12 61 "PetrolBoardModel" "stCond" "[I", Cond.methodLink RX12 431 yX12_works, Cond.instanceMethod yX12_works]
def wsX12_granted_r3 : List Cond := [Cond.selects RX12 yX12_works yX12_works, Cond.code yX12_works cX12_works 10 none, Cond.fieldLink RX12 64 "PetrolBoardModel" "stFrom" "[I", Cond.fieldLink RX12 67 "PetrolBoardModel" "stTo" "[I", Cond.fieldLink RX12 70 "PetrolBoardModel" "nodeKind" "[I", Cond.fieldLink RX12 73 "PetrolBoardModel" "nodeA" "[I", Cond.fieldLink RX12 76 "PetrolBoardModel" "nodeB" "[I", Cond.methodLink RX12 427 yX12_held, Cond.static yX12_held, Cond.code yX12_held cX12_held 2 (some .long), Cond.constantLong RX12 423 (1000000000), Cond.constantLong RX12 425 (-1000000000)]
def wsX12_granted : List Cond := .code yX12_granted cX12_granted 3 (some .int) :: ((wsX12_granted_r1 ++ (wsX12_granted_r2 ++ wsX12_granted_r3)) ++ wsX120)
def wsX12_ask_r1 : List Cond := [Cond.fieldLink RX12 232 "PetrolBoardModel" "today" "I", Cond.fieldLink RX12 505 "PetrolBoardModel" "journeys" "I", Cond.fieldLink RX12 193 "PetrolBoardModel" "jWho" "[I", Cond.fieldLink RX12 196 "PetrolBoardModel" "jMiles" "[I", Cond.fieldLink RX12 199 "PetrolBoardModel" "jPeople" "[I", Cond.fieldLink RX12 202 "PetrolBoardModel" "jReason" "[I", Cond.fieldLink RX12 205 "PetrolBoardModel" "jDay" "[I", Cond.fieldLink RX12 208 "PetrolBoardModel" "jWay" "[I", Cond.fieldLink RX12 211 "PetrolBoardModel" "jAsked" "[I", Cond.fieldLink RX12 214 "PetrolBoardModel" "jGranted" "[I", Cond.fieldLink RX12 217 "PetrolBoardModel" "jFirst" "[I", Cond.methodLink RX12 239 yX12_isHolder, Cond.instanceMethod yX12_isHolder, Cond.selects RX12 yX12_isHolder yX12_isHolder, Cond.initialized RX12, Cond.code yX12_isHolder cX12_isHolder 2 (some .boolean), Cond.fieldLink RX12 229 "PetrolBoardModel" "holders" "I", Cond.methodLink RX12 235 yX12_within, Cond.static yX12_within, Cond.code yX12_within cX12_within 3 (some .boolean), Cond.methodLink RX12 508 yX12_granted, Cond.instanceMethod yX12_granted, Cond.selects RX12 yX12_granted yX12_granted, Cond.code yX12_granted cX12_granted 3 (some .int)]
def wsX12_ask_r2 : List Cond := [Cond.methodLink RX12 249 yX12_kindOn, Cond.instanceMethod yX12_kindOn, Cond.selects RX12 yX12_kindOn yX12_kindOn, Cond.code yX12_kindOn cX12_kindOn 6 (some .int), Cond.fieldLink RX12 246 "PetrolBoardModel" "notes" "I", Cond.fieldLink RX12 25 "PetrolBoardModel" "noteWho" "[I", Cond.fieldLink RX12 31 "PetrolBoardModel" "noteFrom" "[I", Cond.fieldLink RX12 34 "PetrolBoardModel" "noteTold" "[I", Cond.fieldLink RX12 37 "PetrolBoardModel" "noteGone" "[I", Cond.fieldLink RX12 28 "PetrolBoardModel" "noteClass" "[I", Cond.methodLink RX12 439 yX12_asked, Cond.instanceMethod yX12_asked, Cond.selects RX12 yX12_asked yX12_asked, Cond.code yX12_asked cX12_asked 7 none, Cond.fieldLink RX12 103 "PetrolBoardModel" "asks" "[J", Cond.fieldLink RX12 7 "PetrolBoardModel" "sizeOf" "[I", Cond.fieldLink RX12 13 "PetrolBoardModel" "townOf" "[I", Cond.methodLink RX12 417 yX12_inForce, Cond.instanceMethod yX12_inForce, Cond.selects RX12 yX12_inForce yX12_inForce, Cond.code yX12_inForce cX12_inForce 5 (some .int), Cond.fieldLink RX12 408 "PetrolBoardModel" "texts" "I", Cond.fieldLink RX12 49 "PetrolBoardModel" "textTold" "[I", Cond.fieldLink RX12 46 "PetrolBoardModel" "textMonth" "[I"]
def wsX12_ask_r3 : List Cond := [Cond.methodLink RX12 443 yX12_first, Cond.instanceMethod yX12_first, Cond.selects RX12 yX12_first yX12_first, Cond.code yX12_first cX12_first 6 (some .int), Cond.fieldLink RX12 40 "PetrolBoardModel" "textFirst" "[I", Cond.fieldLink RX12 43 "PetrolBoardModel" "textMany" "[I", Cond.fieldLink RX12 52 "PetrolBoardModel" "stRule" "[I", Cond.fieldLink RX12 79 "PetrolBoardModel" "result" "[J", Cond.fieldLink RX12 58 "PetrolBoardModel" "stEx" "[I", Cond.constantLong RX12 437 (99), Cond.methodLink RX12 434 yX12_holds, Cond.instanceMethod yX12_holds, Cond.selects RX12 yX12_holds yX12_holds, Cond.code yX12_holds cX12_holds 2 (some .boolean), Cond.fieldLink RX12 61 "PetrolBoardModel" "stCond" "[I", Cond.methodLink RX12 431 yX12_works, Cond.instanceMethod yX12_works, Cond.selects RX12 yX12_works yX12_works, Cond.code yX12_works cX12_works 10 none, Cond.fieldLink RX12 64 "PetrolBoardModel" "stFrom" "[I", Cond.fieldLink RX12 67 "PetrolBoardModel" "stTo" "[I", Cond.fieldLink RX12 70 "PetrolBoardModel" "nodeKind" "[I", Cond.fieldLink RX12 73 "PetrolBoardModel" "nodeA" "[I", Cond.fieldLink RX12 76 "PetrolBoardModel" "nodeB" "[I"]
def wsX12_ask_r4 : List Cond := [Cond.methodLink RX12 427 yX12_held, Cond.static yX12_held, Cond.code yX12_held cX12_held 2 (some .long), Cond.constantLong RX12 423 (1000000000), Cond.constantLong RX12 425 (-1000000000)]
def wsX12_ask : List Cond := .code yX12_ask cX12_ask 8 (some .int) :: ((wsX12_ask_r1 ++ (wsX12_ask_r2 ++ (wsX12_ask_r3 ++ wsX12_ask_r4))) ++ wsX120)
def wsX12_appeal_r1 : List Cond := [Cond.fieldLink RX12 505 "PetrolBoardModel" "journeys" "I", Cond.fieldLink RX12 202 "PetrolBoardModel" "jReason" "[I", Cond.fieldLink RX12 214 "PetrolBoardModel" "jGranted" "[I", Cond.methodLink RX12 235 yX12_within, Cond.static yX12_within, Cond.initialized RX12, Cond.code yX12_within cX12_within 3 (some .boolean), Cond.methodLink RX12 508 yX12_granted, Cond.instanceMethod yX12_granted, Cond.selects RX12 yX12_granted yX12_granted, Cond.code yX12_granted cX12_granted 3 (some .int), Cond.fieldLink RX12 205 "PetrolBoardModel" "jDay" "[I", Cond.fieldLink RX12 193 "PetrolBoardModel" "jWho" "[I", Cond.fieldLink RX12 211 "PetrolBoardModel" "jAsked" "[I", Cond.fieldLink RX12 196 "PetrolBoardModel" "jMiles" "[I", Cond.fieldLink RX12 199 "PetrolBoardModel" "jPeople" "[I", Cond.methodLink RX12 249 yX12_kindOn, Cond.instanceMethod yX12_kindOn, Cond.selects RX12 yX12_kindOn yX12_kindOn, Cond.code yX12_kindOn cX12_kindOn 6 (some .int), Cond.fieldLink RX12 246 "PetrolBoardModel" "notes" "I", Cond.fieldLink RX12 25 "PetrolBoardModel" "noteWho" "[I", Cond.fieldLink RX12 31 "PetrolBoardModel" "noteFrom" "[I", Cond.fieldLink RX12 34 "PetrolBoardModel" "noteTold" "[I"]
def wsX12_appeal_r2 : List Cond := [Cond.fieldLink RX12 37 "PetrolBoardModel" "noteGone" "[I", Cond.fieldLink RX12 28 "PetrolBoardModel" "noteClass" "[I", Cond.methodLink RX12 439 yX12_asked, Cond.instanceMethod yX12_asked, Cond.selects RX12 yX12_asked yX12_asked, Cond.code yX12_asked cX12_asked 7 none, Cond.fieldLink RX12 103 "PetrolBoardModel" "asks" "[J", Cond.fieldLink RX12 7 "PetrolBoardModel" "sizeOf" "[I", Cond.fieldLink RX12 13 "PetrolBoardModel" "townOf" "[I", Cond.methodLink RX12 417 yX12_inForce, Cond.instanceMethod yX12_inForce, Cond.selects RX12 yX12_inForce yX12_inForce, Cond.code yX12_inForce cX12_inForce 5 (some .int), Cond.fieldLink RX12 408 "PetrolBoardModel" "texts" "I", Cond.fieldLink RX12 49 "PetrolBoardModel" "textTold" "[I", Cond.fieldLink RX12 46 "PetrolBoardModel" "textMonth" "[I", Cond.methodLink RX12 443 yX12_first, Cond.instanceMethod yX12_first, Cond.selects RX12 yX12_first yX12_first, Cond.code yX12_first cX12_first 6 (some .int), Cond.fieldLink RX12 40 "PetrolBoardModel" "textFirst" "[I", Cond.fieldLink RX12 43 "PetrolBoardModel" "textMany" "[I", Cond.fieldLink RX12 52 "PetrolBoardModel" "stRule" "[I", Cond.fieldLink RX12 79 "PetrolBoardModel" "result" "[J"]
def wsX12_appeal_r3 : List Cond := [Cond.fieldLink RX12 58 "PetrolBoardModel" "stEx" "[I", Cond.constantLong RX12 437 (99), Cond.methodLink RX12 434 yX12_holds, Cond.instanceMethod yX12_holds, Cond.selects RX12 yX12_holds yX12_holds, Cond.code yX12_holds cX12_holds 2 (some .boolean), Cond.fieldLink RX12 61 "PetrolBoardModel" "stCond" "[I", Cond.methodLink RX12 431 yX12_works, Cond.instanceMethod yX12_works, Cond.selects RX12 yX12_works yX12_works, Cond.code yX12_works cX12_works 10 none, Cond.fieldLink RX12 64 "PetrolBoardModel" "stFrom" "[I", Cond.fieldLink RX12 67 "PetrolBoardModel" "stTo" "[I", Cond.fieldLink RX12 70 "PetrolBoardModel" "nodeKind" "[I", Cond.fieldLink RX12 73 "PetrolBoardModel" "nodeA" "[I", Cond.fieldLink RX12 76 "PetrolBoardModel" "nodeB" "[I", Cond.methodLink RX12 427 yX12_held, Cond.static yX12_held, Cond.code yX12_held cX12_held 2 (some .long), Cond.constantLong RX12 423 (1000000000), Cond.constantLong RX12 425 (-1000000000)]
def wsX12_appeal : List Cond := .code yX12_appeal cX12_appeal 3 (some .int) :: ((wsX12_appeal_r1 ++ (wsX12_appeal_r2 ++ wsX12_appeal_r3)) ++ wsX120)
def wsX12_isLike : List Cond := .code yX12_isLike cX12_isLike 3 (some .boolean) :: ([.fieldLink RX12 202 "PetrolBoardModel" "jReason" "[I", .fieldLink RX12 199 "PetrolBoardModel" "jPeople" "[I", .fieldLink RX12 196 "PetrolBoardModel" "jMiles" "[I", .fieldLink RX12 214 "PetrolBoardModel" "jGranted" "[I", .fieldLink RX12 193 "PetrolBoardModel" "jWho" "[I", .fieldLink RX12 205 "PetrolBoardModel" "jDay" "[I", .fieldLink RX12 232 "PetrolBoardModel" "today" "I", .methodLink RX12 511 yX12_abs, .static yX12_abs, .initialized RX12, .code yX12_abs cX12_abs 1 (some .int), .methodLink RX12 249 yX12_kindOn, .instanceMethod yX12_kindOn, .selects RX12 yX12_kindOn yX12_kindOn, .code yX12_kindOn cX12_kindOn 6 (some .int), .fieldLink RX12 246 "PetrolBoardModel" "notes" "I", .fieldLink RX12 25 "PetrolBoardModel" "noteWho" "[I", .fieldLink RX12 31 "PetrolBoardModel" "noteFrom" "[I", .fieldLink RX12 34 "PetrolBoardModel" "noteTold" "[I", .fieldLink RX12 37 "PetrolBoardModel" "noteGone" "[I", .fieldLink RX12 28 "PetrolBoardModel" "noteClass" "[I"] ++ wsX120)
def wsX12_journey_r1 : List Cond := [Cond.fieldLink RX12 505 "PetrolBoardModel" "journeys" "I", Cond.fieldLink RX12 193 "PetrolBoardModel" "jWho" "[I", Cond.fieldLink RX12 196 "PetrolBoardModel" "jMiles" "[I", Cond.fieldLink RX12 199 "PetrolBoardModel" "jPeople" "[I", Cond.fieldLink RX12 202 "PetrolBoardModel" "jReason" "[I", Cond.fieldLink RX12 205 "PetrolBoardModel" "jDay" "[I", Cond.fieldLink RX12 208 "PetrolBoardModel" "jWay" "[I", Cond.fieldLink RX12 214 "PetrolBoardModel" "jGranted" "[I", Cond.fieldLink RX12 217 "PetrolBoardModel" "jFirst" "[I", Cond.methodLink RX12 514 yX12_isLike, Cond.instanceMethod yX12_isLike, Cond.selects RX12 yX12_isLike yX12_isLike, Cond.initialized RX12, Cond.code yX12_isLike cX12_isLike 3 (some .boolean), Cond.fieldLink RX12 232 "PetrolBoardModel" "today" "I", Cond.methodLink RX12 511 yX12_abs, Cond.static yX12_abs, Cond.code yX12_abs cX12_abs 1 (some .int), Cond.methodLink RX12 249 yX12_kindOn, Cond.instanceMethod yX12_kindOn, Cond.selects RX12 yX12_kindOn yX12_kindOn, Cond.code yX12_kindOn cX12_kindOn 6 (some .int), Cond.fieldLink RX12 246 "PetrolBoardModel" "notes" "I", Cond.fieldLink RX12 25 "PetrolBoardModel" "noteWho" "[I"]
def wsX12_journey_r2 : List Cond := [Cond.fieldLink RX12 31 "PetrolBoardModel" "noteFrom" "[I", Cond.fieldLink RX12 34 "PetrolBoardModel" "noteTold" "[I", Cond.fieldLink RX12 37 "PetrolBoardModel" "noteGone" "[I", Cond.fieldLink RX12 28 "PetrolBoardModel" "noteClass" "[I"]
def wsX12_journey : List Cond := .code yX12_journey cX12_journey 5 (some .int) :: ((wsX12_journey_r1 ++ wsX12_journey_r2) ++ wsX120)
def wsX12_bits : List Cond := .code yX12_bits cX12_bits 3 (some .int) :: ([])
def wsX12_pool : List Cond := .code yX12_pool cX12_pool 12 (some .int) :: ([.fieldLink RX12 505 "PetrolBoardModel" "journeys" "I", .fieldLink RX12 205 "PetrolBoardModel" "jDay" "[I", .fieldLink RX12 208 "PetrolBoardModel" "jWay" "[I", .fieldLink RX12 220 "PetrolBoardModel" "pool" "[I", .fieldLink RX12 199 "PetrolBoardModel" "jPeople" "[I", .fieldLink RX12 16 "PetrolBoardModel" "seatsOf" "[I", .fieldLink RX12 193 "PetrolBoardModel" "jWho" "[I", .fieldLink RX12 196 "PetrolBoardModel" "jMiles" "[I", .fieldLink RX12 7 "PetrolBoardModel" "sizeOf" "[I", .methodLink RX12 235 yX12_within, .static yX12_within, .initialized RX12, .code yX12_within cX12_within 3 (some .boolean), .methodLink RX12 518 yX12_bits, .static yX12_bits, .code yX12_bits cX12_bits 3 (some .int)] ++ wsX120)
def wsX12_deals_r1 : List Cond := [Cond.fieldLink RX12 229 "PetrolBoardModel" "holders" "I", Cond.fieldLink RX12 223 "PetrolBoardModel" "deal" "[I", Cond.fieldLink RX12 232 "PetrolBoardModel" "today" "I", Cond.fieldLink RX12 226 "PetrolBoardModel" "isDealt" "[Z", Cond.fieldLink RX12 19 "PetrolBoardModel" "bidOf" "[I", Cond.fieldLink RX12 22 "PetrolBoardModel" "needOf" "[I", Cond.methodLink RX12 446 yX12_unitsOf, Cond.instanceMethod yX12_unitsOf, Cond.selects RX12 yX12_unitsOf yX12_unitsOf, Cond.initialized RX12, Cond.code yX12_unitsOf cX12_unitsOf 6 (some .int), Cond.fieldLink RX12 40 "PetrolBoardModel" "textFirst" "[I", Cond.fieldLink RX12 43 "PetrolBoardModel" "textMany" "[I", Cond.fieldLink RX12 52 "PetrolBoardModel" "stRule" "[I", Cond.methodLink RX12 249 yX12_kindOn, Cond.instanceMethod yX12_kindOn, Cond.selects RX12 yX12_kindOn yX12_kindOn, Cond.code yX12_kindOn cX12_kindOn 6 (some .int), Cond.fieldLink RX12 246 "PetrolBoardModel" "notes" "I", Cond.fieldLink RX12 25 "PetrolBoardModel" "noteWho" "[I", Cond.fieldLink RX12 31 "PetrolBoardModel" "noteFrom" "[I", Cond.fieldLink RX12 34 "PetrolBoardModel" "noteTold" "[I", Cond.fieldLink RX12 37 "PetrolBoardModel" "noteGone" "[I", Cond.fieldLink RX12 28 "PetrolBoardModel" "noteClass" "[I"]
def wsX12_deals_r2 : List Cond := [Cond.methodLink RX12 439 yX12_asked, Cond.instanceMethod yX12_asked, Cond.selects RX12 yX12_asked yX12_asked, Cond.code yX12_asked cX12_asked 7 none, Cond.fieldLink RX12 103 "PetrolBoardModel" "asks" "[J", Cond.fieldLink RX12 7 "PetrolBoardModel" "sizeOf" "[I", Cond.fieldLink RX12 13 "PetrolBoardModel" "townOf" "[I", Cond.methodLink RX12 417 yX12_inForce, Cond.instanceMethod yX12_inForce, Cond.selects RX12 yX12_inForce yX12_inForce, Cond.code yX12_inForce cX12_inForce 5 (some .int), Cond.fieldLink RX12 408 "PetrolBoardModel" "texts" "I", Cond.fieldLink RX12 49 "PetrolBoardModel" "textTold" "[I", Cond.fieldLink RX12 46 "PetrolBoardModel" "textMonth" "[I", Cond.methodLink RX12 434 yX12_holds, Cond.instanceMethod yX12_holds, Cond.selects RX12 yX12_holds yX12_holds, Cond.code yX12_holds cX12_holds 2 (some .boolean), Cond.fieldLink RX12 61 "PetrolBoardModel" "stCond" "[I", Cond.fieldLink RX12 79 "PetrolBoardModel" "result" "[J", Cond.methodLink RX12 431 yX12_works, Cond.instanceMethod yX12_works, Cond.selects RX12 yX12_works yX12_works, Cond.code yX12_works cX12_works 10 none]
def wsX12_deals_r3 : List Cond := [Cond.fieldLink RX12 64 "PetrolBoardModel" "stFrom" "[I", Cond.fieldLink RX12 67 "PetrolBoardModel" "stTo" "[I", Cond.fieldLink RX12 70 "PetrolBoardModel" "nodeKind" "[I", Cond.fieldLink RX12 73 "PetrolBoardModel" "nodeA" "[I", Cond.fieldLink RX12 76 "PetrolBoardModel" "nodeB" "[I", Cond.methodLink RX12 427 yX12_held, Cond.static yX12_held, Cond.code yX12_held cX12_held 2 (some .long), Cond.constantLong RX12 423 (1000000000), Cond.constantLong RX12 425 (-1000000000), Cond.methodLink RX12 443 yX12_first, Cond.instanceMethod yX12_first, Cond.selects RX12 yX12_first yX12_first, Cond.code yX12_first cX12_first 6 (some .int), Cond.fieldLink RX12 58 "PetrolBoardModel" "stEx" "[I", Cond.constantLong RX12 437 (99), Cond.methodLink RX12 287 yX12_min, Cond.static yX12_min, Cond.code yX12_min cX12_min 2 (some .int)]
def wsX12_deals : List Cond := .code yX12_deals cX12_deals 7 none :: ((wsX12_deals_r1 ++ (wsX12_deals_r2 ++ wsX12_deals_r3)) ++ wsX120)
def wsX12_other_r1 : List Cond := [Cond.fieldLink RX12 223 "PetrolBoardModel" "deal" "[I", Cond.fieldLink RX12 22 "PetrolBoardModel" "needOf" "[I", Cond.methodLink RX12 235 yX12_within, Cond.static yX12_within, Cond.initialized RX12, Cond.code yX12_within cX12_within 3 (some .boolean), Cond.methodLink RX12 405 yX12_isMonth, Cond.static yX12_isMonth, Cond.code yX12_isMonth cX12_isMonth 1 (some .boolean), Cond.methodLink RX12 239 yX12_isHolder, Cond.instanceMethod yX12_isHolder, Cond.selects RX12 yX12_isHolder yX12_isHolder, Cond.code yX12_isHolder cX12_isHolder 2 (some .boolean), Cond.fieldLink RX12 229 "PetrolBoardModel" "holders" "I", Cond.methodLink RX12 521 yX12_deals, Cond.instanceMethod yX12_deals, Cond.selects RX12 yX12_deals yX12_deals, Cond.code yX12_deals cX12_deals 7 none, Cond.fieldLink RX12 232 "PetrolBoardModel" "today" "I", Cond.fieldLink RX12 226 "PetrolBoardModel" "isDealt" "[Z", Cond.fieldLink RX12 19 "PetrolBoardModel" "bidOf" "[I", Cond.methodLink RX12 446 yX12_unitsOf, Cond.instanceMethod yX12_unitsOf, Cond.selects RX12 yX12_unitsOf yX12_unitsOf]
def wsX12_other_r2 : List Cond := [Cond.code yX12_unitsOf cX12_unitsOf 6 (some .int), Cond.fieldLink RX12 40 "PetrolBoardModel" "textFirst" "[I", Cond.fieldLink RX12 43 "PetrolBoardModel" "textMany" "[I", Cond.fieldLink RX12 52 "PetrolBoardModel" "stRule" "[I", Cond.methodLink RX12 249 yX12_kindOn, Cond.instanceMethod yX12_kindOn, Cond.selects RX12 yX12_kindOn yX12_kindOn, Cond.code yX12_kindOn cX12_kindOn 6 (some .int), Cond.fieldLink RX12 246 "PetrolBoardModel" "notes" "I", Cond.fieldLink RX12 25 "PetrolBoardModel" "noteWho" "[I", Cond.fieldLink RX12 31 "PetrolBoardModel" "noteFrom" "[I", Cond.fieldLink RX12 34 "PetrolBoardModel" "noteTold" "[I", Cond.fieldLink RX12 37 "PetrolBoardModel" "noteGone" "[I", Cond.fieldLink RX12 28 "PetrolBoardModel" "noteClass" "[I", Cond.methodLink RX12 439 yX12_asked, Cond.instanceMethod yX12_asked, Cond.selects RX12 yX12_asked yX12_asked, Cond.code yX12_asked cX12_asked 7 none, Cond.fieldLink RX12 103 "PetrolBoardModel" "asks" "[J", Cond.fieldLink RX12 7 "PetrolBoardModel" "sizeOf" "[I", Cond.fieldLink RX12 13 "PetrolBoardModel" "townOf" "[I", Cond.methodLink RX12 417 yX12_inForce, Cond.instanceMethod yX12_inForce, Cond.selects RX12 yX12_inForce yX12_inForce]
def wsX12_other_r3 : List Cond := [Cond.code yX12_inForce cX12_inForce 5 (some .int), Cond.fieldLink RX12 408 "PetrolBoardModel" "texts" "I", Cond.fieldLink RX12 49 "PetrolBoardModel" "textTold" "[I", Cond.fieldLink RX12 46 "PetrolBoardModel" "textMonth" "[I", Cond.methodLink RX12 434 yX12_holds, Cond.instanceMethod yX12_holds, Cond.selects RX12 yX12_holds yX12_holds, Cond.code yX12_holds cX12_holds 2 (some .boolean), Cond.fieldLink RX12 61 "PetrolBoardModel" "stCond" "[I", Cond.fieldLink RX12 79 "PetrolBoardModel" "result" "[J", Cond.methodLink RX12 431 yX12_works, Cond.instanceMethod yX12_works, Cond.selects RX12 yX12_works yX12_works, Cond.code yX12_works cX12_works 10 none, Cond.fieldLink RX12 64 "PetrolBoardModel" "stFrom" "[I", Cond.fieldLink RX12 67 "PetrolBoardModel" "stTo" "[I", Cond.fieldLink RX12 70 "PetrolBoardModel" "nodeKind" "[I", Cond.fieldLink RX12 73 "PetrolBoardModel" "nodeA" "[I", Cond.fieldLink RX12 76 "PetrolBoardModel" "nodeB" "[I", Cond.methodLink RX12 427 yX12_held, Cond.static yX12_held, Cond.code yX12_held cX12_held 2 (some .long), Cond.constantLong RX12 423 (1000000000), Cond.constantLong RX12 425 (-1000000000)]
def wsX12_other_r4 : List Cond := [Cond.methodLink RX12 443 yX12_first, Cond.instanceMethod yX12_first, Cond.selects RX12 yX12_first yX12_first, Cond.code yX12_first cX12_first 6 (some .int), Cond.fieldLink RX12 58 "PetrolBoardModel" "stEx" "[I", Cond.constantLong RX12 437 (99), Cond.methodLink RX12 287 yX12_min, Cond.static yX12_min, Cond.code yX12_min cX12_min 2 (some .int)]
def wsX12_other : List Cond := .code yX12_other cX12_other 5 (some .int) :: ((wsX12_other_r1 ++ (wsX12_other_r2 ++ (wsX12_other_r3 ++ wsX12_other_r4))) ++ wsX120)
def wsX12_stays_r1 : List Cond := [Cond.fieldLink RX12 229 "PetrolBoardModel" "holders" "I", Cond.fieldLink RX12 223 "PetrolBoardModel" "deal" "[I", Cond.fieldLink RX12 22 "PetrolBoardModel" "needOf" "[I", Cond.methodLink RX12 235 yX12_within, Cond.static yX12_within, Cond.initialized RX12, Cond.code yX12_within cX12_within 3 (some .boolean), Cond.methodLink RX12 405 yX12_isMonth, Cond.static yX12_isMonth, Cond.code yX12_isMonth cX12_isMonth 1 (some .boolean), Cond.methodLink RX12 521 yX12_deals, Cond.instanceMethod yX12_deals, Cond.selects RX12 yX12_deals yX12_deals, Cond.code yX12_deals cX12_deals 7 none, Cond.fieldLink RX12 232 "PetrolBoardModel" "today" "I", Cond.fieldLink RX12 226 "PetrolBoardModel" "isDealt" "[Z", Cond.fieldLink RX12 19 "PetrolBoardModel" "bidOf" "[I", Cond.methodLink RX12 446 yX12_unitsOf, Cond.instanceMethod yX12_unitsOf, Cond.selects RX12 yX12_unitsOf yX12_unitsOf, Cond.code yX12_unitsOf cX12_unitsOf 6 (some .int), Cond.fieldLink RX12 40 "PetrolBoardModel" "textFirst" "[I", Cond.fieldLink RX12 43 "PetrolBoardModel" "textMany" "[I", Cond.fieldLink RX12 52 "PetrolBoardModel" "stRule" "[I"]
def wsX12_stays_r2 : List Cond := [Cond.methodLink RX12 249 yX12_kindOn, Cond.instanceMethod yX12_kindOn, Cond.selects RX12 yX12_kindOn yX12_kindOn, Cond.code yX12_kindOn cX12_kindOn 6 (some .int), Cond.fieldLink RX12 246 "PetrolBoardModel" "notes" "I", Cond.fieldLink RX12 25 "PetrolBoardModel" "noteWho" "[I", Cond.fieldLink RX12 31 "PetrolBoardModel" "noteFrom" "[I", Cond.fieldLink RX12 34 "PetrolBoardModel" "noteTold" "[I", Cond.fieldLink RX12 37 "PetrolBoardModel" "noteGone" "[I", Cond.fieldLink RX12 28 "PetrolBoardModel" "noteClass" "[I", Cond.methodLink RX12 439 yX12_asked, Cond.instanceMethod yX12_asked, Cond.selects RX12 yX12_asked yX12_asked, Cond.code yX12_asked cX12_asked 7 none, Cond.fieldLink RX12 103 "PetrolBoardModel" "asks" "[J", Cond.fieldLink RX12 7 "PetrolBoardModel" "sizeOf" "[I", Cond.fieldLink RX12 13 "PetrolBoardModel" "townOf" "[I", Cond.methodLink RX12 417 yX12_inForce, Cond.instanceMethod yX12_inForce, Cond.selects RX12 yX12_inForce yX12_inForce, Cond.code yX12_inForce cX12_inForce 5 (some .int), Cond.fieldLink RX12 408 "PetrolBoardModel" "texts" "I", Cond.fieldLink RX12 49 "PetrolBoardModel" "textTold" "[I", Cond.fieldLink RX12 46 "PetrolBoardModel" "textMonth" "[I"]
def wsX12_stays_r3 : List Cond := [Cond.methodLink RX12 434 yX12_holds, Cond.instanceMethod yX12_holds, Cond.selects RX12 yX12_holds yX12_holds, Cond.code yX12_holds cX12_holds 2 (some .boolean), Cond.fieldLink RX12 61 "PetrolBoardModel" "stCond" "[I", Cond.fieldLink RX12 79 "PetrolBoardModel" "result" "[J", Cond.methodLink RX12 431 yX12_works, Cond.instanceMethod yX12_works, Cond.selects RX12 yX12_works yX12_works, Cond.code yX12_works cX12_works 10 none, Cond.fieldLink RX12 64 "PetrolBoardModel" "stFrom" "[I", Cond.fieldLink RX12 67 "PetrolBoardModel" "stTo" "[I", Cond.fieldLink RX12 70 "PetrolBoardModel" "nodeKind" "[I", Cond.fieldLink RX12 73 "PetrolBoardModel" "nodeA" "[I", Cond.fieldLink RX12 76 "PetrolBoardModel" "nodeB" "[I", Cond.methodLink RX12 427 yX12_held, Cond.static yX12_held, Cond.code yX12_held cX12_held 2 (some .long), Cond.constantLong RX12 423 (1000000000), Cond.constantLong RX12 425 (-1000000000), Cond.methodLink RX12 443 yX12_first, Cond.instanceMethod yX12_first, Cond.selects RX12 yX12_first yX12_first, Cond.code yX12_first cX12_first 6 (some .int)]
def wsX12_stays_r4 : List Cond := [Cond.fieldLink RX12 58 "PetrolBoardModel" "stEx" "[I", Cond.constantLong RX12 437 (99), Cond.methodLink RX12 287 yX12_min, Cond.static yX12_min, Cond.code yX12_min cX12_min 2 (some .int)]
def wsX12_stays : List Cond := .code yX12_stays cX12_stays 5 (some .int) :: ((wsX12_stays_r1 ++ (wsX12_stays_r2 ++ (wsX12_stays_r3 ++ wsX12_stays_r4))) ++ wsX120)
def wsX12_foretold_r1 : List Cond := [Cond.fieldLink RX12 232 "PetrolBoardModel" "today" "I", Cond.constant RX12 482 (-2000000000), Cond.fieldLink RX12 229 "PetrolBoardModel" "holders" "I", Cond.fieldLink RX12 493 "PetrolBoardModel" "ports" "I", Cond.fieldLink RX12 172 "PetrolBoardModel" "loadsOf" "[I", Cond.constantLong RX12 525 (100), Cond.constantLong RX12 527 (9), Cond.constantLong RX12 529 (10), Cond.constantLong RX12 531 (-1999999999), Cond.constant RX12 533 (-1999999999), Cond.methodLink RX12 235 yX12_within, Cond.static yX12_within, Cond.initialized RX12, Cond.code yX12_within cX12_within 3 (some .boolean), Cond.methodLink RX12 249 yX12_kindOn, Cond.instanceMethod yX12_kindOn, Cond.selects RX12 yX12_kindOn yX12_kindOn, Cond.code yX12_kindOn cX12_kindOn 6 (some .int), Cond.fieldLink RX12 246 "PetrolBoardModel" "notes" "I", Cond.fieldLink RX12 25 "PetrolBoardModel" "noteWho" "[I", Cond.fieldLink RX12 31 "PetrolBoardModel" "noteFrom" "[I", Cond.fieldLink RX12 34 "PetrolBoardModel" "noteTold" "[I", Cond.fieldLink RX12 37 "PetrolBoardModel" "noteGone" "[I", Cond.fieldLink RX12 28 "PetrolBoardModel" "noteClass" "[I"]
def wsX12_foretold_r2 : List Cond := [Cond.methodLink RX12 446 yX12_unitsOf, Cond.instanceMethod yX12_unitsOf, Cond.selects RX12 yX12_unitsOf yX12_unitsOf, Cond.code yX12_unitsOf cX12_unitsOf 6 (some .int), Cond.fieldLink RX12 40 "PetrolBoardModel" "textFirst" "[I", Cond.fieldLink RX12 43 "PetrolBoardModel" "textMany" "[I", Cond.fieldLink RX12 52 "PetrolBoardModel" "stRule" "[I", Cond.methodLink RX12 439 yX12_asked, Cond.instanceMethod yX12_asked, Cond.selects RX12 yX12_asked yX12_asked, Cond.code yX12_asked cX12_asked 7 none, Cond.fieldLink RX12 103 "PetrolBoardModel" "asks" "[J", Cond.fieldLink RX12 7 "PetrolBoardModel" "sizeOf" "[I", Cond.fieldLink RX12 13 "PetrolBoardModel" "townOf" "[I", Cond.methodLink RX12 417 yX12_inForce, Cond.instanceMethod yX12_inForce, Cond.selects RX12 yX12_inForce yX12_inForce, Cond.code yX12_inForce cX12_inForce 5 (some .int), Cond.fieldLink RX12 408 "PetrolBoardModel" "texts" "I", Cond.fieldLink RX12 49 "PetrolBoardModel" "textTold" "[I", Cond.fieldLink RX12 46 "PetrolBoardModel" "textMonth" "[I", Cond.methodLink RX12 434 yX12_holds, Cond.instanceMethod yX12_holds, Cond.selects RX12 yX12_holds yX12_holds]
def wsX12_foretold_r3 : List Cond := [Cond.code yX12_holds cX12_holds 2 (some .boolean), Cond.fieldLink RX12 61 "PetrolBoardModel" "stCond" "[I", Cond.fieldLink RX12 79 "PetrolBoardModel" "result" "[J", Cond.methodLink RX12 431 yX12_works, Cond.instanceMethod yX12_works, Cond.selects RX12 yX12_works yX12_works, Cond.code yX12_works cX12_works 10 none, Cond.fieldLink RX12 64 "PetrolBoardModel" "stFrom" "[I", Cond.fieldLink RX12 67 "PetrolBoardModel" "stTo" "[I", Cond.fieldLink RX12 70 "PetrolBoardModel" "nodeKind" "[I", Cond.fieldLink RX12 73 "PetrolBoardModel" "nodeA" "[I", Cond.fieldLink RX12 76 "PetrolBoardModel" "nodeB" "[I", Cond.methodLink RX12 427 yX12_held, Cond.static yX12_held, Cond.code yX12_held cX12_held 2 (some .long), Cond.constantLong RX12 423 (1000000000), Cond.constantLong RX12 425 (-1000000000), Cond.methodLink RX12 443 yX12_first, Cond.instanceMethod yX12_first, Cond.selects RX12 yX12_first yX12_first, Cond.code yX12_first cX12_first 6 (some .int), Cond.fieldLink RX12 58 "PetrolBoardModel" "stEx" "[I", Cond.constantLong RX12 437 (99), Cond.methodLink RX12 420 yX12_number]
def wsX12_foretold_r4 : List Cond := [Cond.instanceMethod yX12_number, Cond.selects RX12 yX12_number yX12_number, Cond.code yX12_number cX12_number 7 (some .int), Cond.fieldLink RX12 55 "PetrolBoardModel" "stNumber" "[I"]
def wsX12_foretold : List Cond := .code yX12_foretold cX12_foretold 9 (some .int) :: ((wsX12_foretold_r1 ++ (wsX12_foretold_r2 ++ (wsX12_foretold_r3 ++ wsX12_foretold_r4))) ++ wsX120)
def wsX12_count : List Cond := .code yX12_count cX12_count 5 (some .int) :: ([.fieldLink RX12 468 "PetrolBoardModel" "pours" "I", .fieldLink RX12 136 "PetrolBoardModel" "pourJudged" "[I", .fieldLink RX12 232 "PetrolBoardModel" "today" "I", .fieldLink RX12 229 "PetrolBoardModel" "holders" "I", .fieldLink RX12 246 "PetrolBoardModel" "notes" "I", .fieldLink RX12 408 "PetrolBoardModel" "texts" "I", .fieldLink RX12 449 "PetrolBoardModel" "books" "I", .fieldLink RX12 461 "PetrolBoardModel" "stations" "I", .fieldLink RX12 455 "PetrolBoardModel" "lentAll" "I", .fieldLink RX12 493 "PetrolBoardModel" "ports" "I", .fieldLink RX12 505 "PetrolBoardModel" "journeys" "I", .fieldLink RX12 253 "PetrolBoardModel" "taped" "I"] ++ wsX120)
def wsJ9_abs_0f7a4 : List Cond := .code yJ9_abs_0f7a4 cJ9_abs_0f7a4 1 (some .int) :: ([])
def wsJ9_max_7cf53 : List Cond := .code yJ9_max_7cf53 cJ9_max_7cf53 2 (some .int) :: ([])
def wsJ9_max_f86c9 : List Cond := .code yJ9_max_f86c9 cJ9_max_f86c9 4 (some .long) :: ([])
def wsJ9_min_7cf53 : List Cond := .code yJ9_min_7cf53 cJ9_min_7cf53 2 (some .int) :: ([])
def wsJ9_min_f86c9 : List Cond := .code yJ9_min_f86c9 cJ9_min_f86c9 4 (some .long) :: ([])
abbrev vwCl : List vw_C := [(RX0, TX0, 5), (RX1, TX1, 3), (RX2, TX2, 12), (RX3, TX3, 17), (RX4, TX4, 13), (RX5, TX5, 2), (RX6, TX6, 3), (RX7, TX7, 6), (RX8, TX8, 9), (RX9, TX9, 14), (RX10, TX10, 10), (RX11, TX11, 13), (RX12, TX12, 96)]
end
section
/-! FLAT MEMORY: each cell of the world has a number i; sh i says what it is (an array of a type and a length, or an object of a class), ad i where it lies;
ints, longs and references are read by cell and place -/
abbrev z_S : Type := (FieldType × Nat) ⊕ Nat
abbrev z_I : Type := Nat → Nat → Int32
abbrev z_J : Type := Nat → Nat → Int64
abbrev z_P : Type := Nat → Nat → Option Nat
abbrev z_U : Type := (Nat → Option z_S) × (Nat → Nat) × z_I × z_J × z_P
abbrev z_G : Type := va_G × (FieldType → ClassId)
def z_up {α : Type} (f : Nat → Nat → α) (i k : Nat) (v : α) : Nat → Nat → α := fun a b => if a = i then (if b = k then v else f a b) else f a b
theorem z_up_s {α : Type} {f : Nat → Nat → α} {i k : Nat} {v : α} : z_up f i k v i k = v := by simp [z_up]
theorem z_up_n {α : Type} {f : Nat → Nat → α} {i k a b : Nat} {v : α} (h : a ≠ i) : z_up f i k v a b = f a b := by simp [z_up, h]
theorem z_up_k {α : Type} {f : Nat → Nat → α} {i k a b : Nat} {v : α} (h : b ≠ k) : z_up f i k v a b = f a b := by simp [z_up, h]
def z_v (I : z_I) (J : z_J) (P : z_P) (ty : FieldType) (i k : Nat) : Value := match ty with
  | .long => .long (J i k)
  | .object _ => va_rf (P i k)
  | .array _ => va_rf (P i k)
  | _ => .int (I i k)
def z_tf (ci : Nat) : Nat → FieldType := match ci with
  | 0 => tyX0
  | 1 => tyX1
  | 2 => tyX2
  | 3 => tyX3
  | 4 => tyX4
  | 5 => tyX5
  | 6 => tyX6
  | 7 => tyX7
  | 8 => tyX8
  | 9 => tyX9
  | 10 => tyX10
  | 11 => tyX11
  | _ => tyX12
def z_c (G : z_G) (u : z_U) (i : Nat) (x : z_S) (H : Heap) : Prop := match x with
  | .inl a => H[u.2.1 i]? = some (arrV (G.2 a.1) a.2 (fun j => z_v u.2.2.1 u.2.2.2.1 u.2.2.2.2 a.1 i j))
  | .inr ci => ∃ r : vw_C, vwCl[ci]? = some r ∧ t_OB (u.2.1 i) (G.1.1 ci) r.2.2 (G.1.2 ci) H (fun k => z_v u.2.2.1 u.2.2.2.1 u.2.2.2.2 (z_tf ci k) i k)
def z_W (G : z_G) (A : Nat → Prop) (u : z_U) (H : Heap) : Prop := (∀ i x, u.1 i = some x → z_c G u i x H) ∧ (∀ i j, u.1 i ≠ none → u.1 j ≠ none → u.2.1 i = u.2.1 j → i = j) ∧ ∀ i, u.1 i ≠ none → A (u.2.1 i)
/-- private methods and constructors of nest mates: whose link, its place, the method, the host -/
def z_nest : List (String × Nat × MethodName × String) := [(RX11, 15, yX2_init, RX11), (RX11, 22, yX9_init, RX11), (RX11, 29, yX6_init, RX11), (RX6, 19, yX5_init, RX11), (RX11, 43, yX8_init, RX11), (RX11, 60, yX4_init, RX11), (RX11, 67, yX3_init, RX11), (RX11, 74, yX1_init, RX11), (RX7, 23, yX11_within, RX11), (RX6, 42, yX11_usual, RX11), (RX7, 53, yX11_usual, RX11), (RX11, 181, yX10_init, RX11)]
def z_over : List String := [RX7, RX10]
def z_tys : List FieldType := [.int, .byte, .boolean, .long, .object RX7, .object RX10, .array .int]
/-- int[][] can be made: what the tables say of arrays over int[] -/
def z_AOA (U : State) : Prop := (Cond.arrayOver (.array .int)).before #[] U = true
theorem z_AOA.use {A : Array Value} {U : State} (h : z_AOA U) : (Cond.arrayOver (.array .int)).before A U = true := h
theorem z_AOA.moved {u U : State} (hvm : u.vm.Alike U.vm) (h : z_AOA u) : z_AOA U := by
  unfold z_AOA Cond.before Cond.holds at h ⊢
  simp only [Cond.value, beq_iff_eq] at h ⊢
  rw [hvm.findClass]
  cases hc : u.vm.findClass (FieldType.array .int).toString with
  | none => simp [hc] at h
  | some comp =>
    simp only [hc, Option.bind_some, Option.bind_eq_some_iff, Option.map_eq_some_iff] at h ⊢
    obtain ⟨c, hi, k, hk, hb⟩ := h
    obtain ⟨k', hk', he⟩ := hvm.2.2 _ _ hk
    refine ⟨c, ?_, k', hk', ?_⟩
    · have e1 := va_idx_bare U.vm comp
      have e2 := va_idx_bare u.vm comp
      first | rw [hvm.bare_eq] at e1 | rw [hvm.bare_eq] at e2
      exact e1.symm.trans (e2.trans hi)
    · rw [he, hvm.findClass]
      exact hb
def z_K (G : z_G) (s : State) : Prop := (∀ (c : Nat) (q : vw_C), vwCl[c]? = some q → u_Kn s q.1 q.2.1 q.2.2 (G.1.1 c) (G.1.2 c)) ∧ (∀ ty ∈ z_tys, ArrOfT s (G.2 ty) ty ∧ va_RA s (G.2 ty) ty) ∧ (∀ q ∈ z_nest, va_Nw (.methodLinkNest q.1 q.2.1 q.2.2.1 q.2.2.2) s) ∧ (∀ C ∈ z_over, va_AO C s) ∧ z_AOA s
theorem z_K.warm {G : z_G} {u U : State} (hW : u.WarmedH U.vm) (h : z_K G u) : z_K G U := ⟨fun c q hq => u_Kn_moved hW.alike (h.1 c q hq), fun ty ht => ⟨arrOfT_moved hW.alike (h.2.1 ty ht).1, (h.2.1 ty ht).2.moved hW.alike⟩, fun q hq => (h.2.2.1 q hq).warmM hW, fun C hC => (h.2.2.2.1 C hC).moved hW.alike, h.2.2.2.2.moved hW.alike⟩
theorem z_K.same {G : z_G} {u U : State} (hv : u.vm = U.vm) (h : z_K G u) : z_K G U := by
  have ha : u.vm.Alike U.vm := hv ▸ Vm.Alike.refl u.vm
  exact ⟨fun c q hq => u_Kn_moved ha (h.1 c q hq), fun ty ht => ⟨arrOfT_moved ha (h.2.1 ty ht).1, (h.2.1 ty ht).2.moved ha⟩, fun q hq => (h.2.2.1 q hq).same rfl hv, fun C hC => (h.2.2.2.1 C hC).moved ha, h.2.2.2.2.moved ha⟩
def z_A (u : z_U) (sz : Nat) : Nat → Prop := fun q => (∃ i, u.1 i ≠ none ∧ q = u.2.1 i) ∨ sz ≤ q
def z_B (G : z_G) (A : Nat → Prop) (u : z_U) (t : State) : Prop := z_K G t ∧ z_W G A u t.heap
theorem z_c.kept {G : z_G} {u u1 : z_U} {i : Nat} {x : z_S} {H H1 : Heap} (h : z_c G u i x H) (ha : u1.2.1 i = u.2.1 i) (hH : H1[u.2.1 i]? = H[u.2.1 i]?) (hv : ∀ ty k, z_v u1.2.2.1 u1.2.2.2.1 u1.2.2.2.2 ty i k = z_v u.2.2.1 u.2.2.2.1 u.2.2.2.2 ty i k) : z_c G u1 i x H1 := by
  cases x with
  | inl a =>
    show H1[u1.2.1 i]? = some (arrV (G.2 a.1) a.2 _)
    rw [ha, hH]
    have h' : H[u.2.1 i]? = some (arrV (G.2 a.1) a.2 (fun j => z_v u.2.2.1 u.2.2.2.1 u.2.2.2.2 a.1 i j)) := h
    rw [h']
    congr 2
    funext j
    exact (hv a.1 j).symm
  | inr ci =>
    obtain ⟨r, h1, h2⟩ := h
    refine ⟨r, h1, ?_⟩
    rw [ha]
    exact (h2.kept hH).to (fun k _ => (hv (z_tf ci k) k).symm)
theorem z_c.lt {G : z_G} {u : z_U} {i : Nat} {x : z_S} {H : Heap} (h : z_c G u i x H) : u.2.1 i < H.size := by
  cases x with
  | inl a =>
    have h' : H[u.2.1 i]? = some _ := h
    exact (Array.getElem?_eq_some_iff.mp h').1
  | inr ci =>
    obtain ⟨r, h1, cell, h2, -⟩ := h
    exact (Array.getElem?_eq_some_iff.mp h2).1
theorem z_W.lt {G : z_G} {A : Nat → Prop} {u : z_U} {H : Heap} (h : z_W G A u H) {i : Nat} (hi : u.1 i ≠ none) : u.2.1 i < H.size := by
  cases hx : u.1 i with
  | none => exact absurd hx hi
  | some x => exact (h.1 i x hx).lt
/-- values of another cell, or of another place, behind a change of one int, long or reference -/
theorem z_vI {I : z_I} {J : z_J} {P : z_P} {i k a b : Nat} {v : Int32} (h : a ≠ i ∨ b ≠ k) (ty : FieldType) : z_v (z_up I i k v) J P ty a b = z_v I J P ty a b := by
  have e : z_up I i k v a b = I a b := by rcases h with h | h <;> simp [z_up, h]
  cases ty <;> simp [z_v, e]
theorem z_vJ {I : z_I} {J : z_J} {P : z_P} {i k a b : Nat} {v : Int64} (h : a ≠ i ∨ b ≠ k) (ty : FieldType) : z_v I (z_up J i k v) P ty a b = z_v I J P ty a b := by
  have e : z_up J i k v a b = J a b := by rcases h with h | h <;> simp [z_up, h]
  cases ty <;> simp [z_v, e]
theorem z_vP {I : z_I} {J : z_J} {P : z_P} {i k a b : Nat} {v : Option Nat} (h : a ≠ i ∨ b ≠ k) (ty : FieldType) : z_v I J (z_up P i k v) ty a b = z_v I J P ty a b := by
  have e : z_up P i k v a b = P a b := by rcases h with h | h <;> simp [z_up, h]
  cases ty <;> simp [z_v, e]
/-- one cell changed, all else as it was -/
theorem z_W.one {G : z_G} {A : Nat → Prop} {u u1 : z_U} {i : Nat} {x : z_S} {H H1 : Heap} (h : z_W G A u H) (h1 : u1.1 = u.1) (h2 : u1.2.1 = u.2.1) (hi : u.1 i = some x) (hc : z_c G u1 i x H1) (oq : ∀ q : Nat, q ≠ u.2.1 i → H1[q]? = H[q]?)
    (hv : ∀ j, j ≠ i → ∀ ty k, z_v u1.2.2.1 u1.2.2.2.1 u1.2.2.2.2 ty j k = z_v u.2.2.1 u.2.2.2.1 u.2.2.2.2 ty j k) : z_W G A u1 H1 := by
  refine ⟨fun j y hj => ?_, fun a b ha hb hab => ?_, fun a ha => ?_⟩
  · rw [h1] at hj
    by_cases e : j = i
    · subst e
      rw [hi] at hj
      cases hj
      exact hc
    · refine (h.1 j y hj).kept (by rw [h2]) (oq _ (fun q => e ?_)) (hv j e)
      exact h.2.1 j i (by rw [hj]; exact fun z => by cases z) (by rw [hi]; exact fun z => by cases z) q
  · rw [h1] at ha hb
    rw [h2] at hab
    exact h.2.1 a b ha hb hab
  · rw [h1] at ha
    rw [h2]
    exact h.2.2 a ha
theorem z_W.weaken {G : z_G} {A B : Nat → Prop} {u : z_U} {H : Heap} (h : z_W G A u H) (hAB : ∀ q, A q → B q) : z_W G B u H := ⟨h.1, h.2.1, fun i hi => hAB _ (h.2.2 i hi)⟩
theorem z_W.self {G : z_G} {A : Nat → Prop} {u : z_U} {H : Heap} {sz : Nat} (h : z_W G A u H) : z_W G (z_A u sz) u H := ⟨h.1, h.2.1, fun i hi => Or.inl ⟨i, hi, rfl⟩⟩
theorem z_W.free {G : z_G} {A : Nat → Prop} {u : z_U} {H H0 : Heap} {locs : List Loc} (h : z_W G A u H) (hS : va_S A H0 H locs) (hA : ∀ q : Nat, H0.size ≤ q → A q) : ∀ q, z_A u H.size q → A q := by
  intro q hq
  rcases hq with ⟨i, hi, rfl⟩ | hq
  · exact h.2.2 i hi
  · exact hA q (Nat.le_trans hS.1 hq)
theorem z_ne {sh : Nat → Option z_S} {i : Nat} {x : z_S} (h : sh i = some x) : sh i ≠ none := by rw [h]; exact fun z => by cases z
section ZR
variable {p : Program} {l : Launch} {e : Env} {R : Room} {s : State} {m : MethodId} {args : Array Value} {below : List Frame} {meth : Method} {c : Code} {H : Heap} {locs : List Loc} {cells slots : Nat} {Q : State → Prop}
variable {cc : ByteArray} {pc : Nat} {ls : Array Slot} {rest : List Value} {G : z_G} {A : Nat → Prop} {H0 : Heap} {sh : Nat → Option z_S} {ad : Nat → Nat} {I : z_I} {J : z_J} {P : z_P} {i : Nat}
/-- getfield, whatever the field's type -/
theorem z_get (hexec : p.tables.exec = Jvm.exec) (hb : c.code = cc) {own ref C : String} {T : u_T} {N ci index : Nat} {Ts : List Cond} (hts : ∀ w ∈ Ts, w.before args s = true) (hin : ∀ w ∈ u_ws C T N, w ∈ Ts) (hown : s.vm.findClass own = some m.cls) (hK : z_K G s) (hW : z_W G A (sh, ad, I, J, P) H)
    (hi : sh i = some (.inr ci)) (hc : vwCl[ci]? = some (C, T, N)) (k : Nat) (hk : k < N) (hlink : (Cond.fieldLink own index ref (T k).2.1 (T k).2.2.1).before args s = true) (hsame : ∀ x, s.fieldFound? (T k).1 (T k).2.1 (T k).2.2.1 = some x → s.fieldFound? ref (T k).2.1 (T k).2.2.1 = some x) {v : Value} (hv : z_v I J P (z_tf ci k) i k = v) (hdg : decode cc pc = .ok (.getfield index, 3))
    (kk : W p l e R s m args below meth c H locs cells slots Q (F0 m (pc + 3) ls (v :: rest))) : W p l e R s m args below meth c H locs cells slots Q (F0 m pc ls (.ref (ad i) :: rest)) := by
  obtain ⟨r, h1, cell, q1, q2, q3, q4⟩ := hW.1 i _ hi
  have hr : r = (C, T, N) := Option.some.inj (h1.symm.trans hc)
  subst hr
  obtain ⟨hS, hfc, kC, hkC, hkind⟩ := hK.1 ci _ hc
  obtain ⟨cf, kf, fi, f, hf, hsl⟩ := hS k hk
  subst hv
  refine W.getf hexec hb hown hlink (hsame _ hf) (u_facts hfc hkC (u_lays hts hin hk) hf).1 q1 (by rw [q3]; exact fun h => by cases h) ?_ rfl rfl hdg kk
  rw [hsl, q4 k hk]
/-- putfield of a field that isn't final, whatever its type: the new memory is u1 -/
theorem z_put (hexec : p.tables.exec = Jvm.exec) (hb : c.code = cc) {own ref C : String} {T : u_T} {N ci index : Nat} {Ts : List Cond} (hts : ∀ w ∈ Ts, w.before args s = true) (hin : ∀ w ∈ u_ws C T N, w ∈ Ts) (ty0 : Nat → FieldType) (hty : ∀ k, k < N → parseFieldDescriptor (T k).2.2.1 = some (ty0 k)) (hnm : ∀ a, a < N → ∀ b, b < N → a ≠ b → (T a).2.1 ≠ (T b).2.1) (hown : s.vm.findClass own = some m.cls) (hK : z_K G s) (hW : z_W G A (sh, ad, I, J, P) H) (hS0 : va_S A H0 H locs)
    (hi : sh i = some (.inr ci)) (hc : vwCl[ci]? = some (C, T, N)) (k : Nat) (hk : k < N) (hlink : (Cond.fieldLink own index ref (T k).2.1 (T k).2.2.1).before args s = true) (hsame : ∀ x, s.fieldFound? (T k).1 (T k).2.1 (T k).2.2.1 = some x → s.fieldFound? ref (T k).2.1 (T k).2.2.1 = some x) (hfin : (T k).2.2.2 = false) {v : Value} (hn : narrow (ty0 k) v = v) (hfit : fits (ty0 k) v = true)
    {I1 : z_I} {J1 : z_J} {P1 : z_P} (hv : z_v I1 J1 P1 (z_tf ci k) i k = v) (ho : ∀ a b, a ≠ i ∨ b ≠ k → ∀ ty, z_v I1 J1 P1 ty a b = z_v I J P ty a b)
    (hdg : decode cc pc = .ok (.putfield index, 3)) (kk : ∀ (H1 : Heap) (locs1 : List Loc), H1.size = H.size → z_W G A (sh, ad, I1, J1, P1) H1 → va_S A H0 H1 locs1 → W p l e R s m args below meth c H1 locs1 cells slots Q (F0 m (pc + 3) ls rest)) : W p l e R s m args below meth c H locs cells slots Q (F0 m pc ls (v :: .ref (ad i) :: rest)) := by
  obtain ⟨r, h1, cell, q1, q2, q3, q4⟩ := hW.1 i _ hi
  have hr : r = (C, T, N) := Option.some.inj (h1.symm.trans hc)
  subst hr
  obtain ⟨hS, hfc, kC, hkC, hkind⟩ := hK.1 ci _ hc
  have hap : ∀ x y, x < N → y < N → x ≠ y → (G.1.2 ci) x ≠ (G.1.2 ci) y := by
    intro x y hx hy hne
    obtain ⟨_, _, _, fa, hia, ea⟩ := hS x hx
    obtain ⟨_, _, _, fb, hib, eb⟩ := hS y hy
    rw [← ea, ← eb]
    refine u_apart (u_lays hts hin hx) (u_lays hts hin hy) hia hib ?_
    rw [(State.fieldFound?_type hia (hty x hx)).1, (State.fieldFound?_type hib (hty y hy)).1]
    exact hnm x hx y hy hne
  obtain ⟨cf, kf, fi, f, hf, hsl⟩ := hS k hk
  have hlay := hts _ (hin _ (u_in_lay hk))
  unfold u_lay at hlay
  rw [if_neg (by rw [hfin]; decide)] at hlay
  have hst := (u_facts hfc hkC (u_lays hts hin hk) hf).1
  have h6 := u_store hfc hkC hkind hlay hf (hty k hk) hn hfit
  refine W.putK hexec hb (f := f) ⟨hown, hlink, ⟨_, _, _, hsame _ hf⟩, hst⟩ (by rw [q2]; exact h6) q1 q3 (by rw [hsl]; exact k2_hasslot (q4 k hk)) rfl rfl hdg fun H' e1 e2 e3 => ?_
  rw [hsl] at e1 ⊢
  refine kk H' _ e2 (hW.one rfl rfl hi ⟨_, hc, _, e1, q2, q3, fun j hj => ?_⟩ e3 (fun j hj ty b => ho j b (Or.inl hj) ty)) (hS0.put e2 e3 (hW.2.2 i (z_ne hi)))
  rw [t_set q4 hap hk v j hj]
  unfold updV
  by_cases e : j = k
  · rw [if_pos e, e, ← hv]
  · rw [if_neg e]
    exact congrArg some (ho i j (Or.inr e) _).symm
/-- arrays of ints: iaload, iastore -/
theorem z_iald (hexec : p.tables.exec = Jvm.exec) (hb : c.code = cc) (hK : z_K G s) (hW : z_W G A (sh, ad, I, J, P) H) {n : Nat} (hi : sh i = some (.inl (.int, n))) {x : Int32} (hin : vp_in x n) (hdg : decode cc pc = .ok (.iaload, 1))
    (kk : W p l e R s m args below meth c H locs cells slots Q (F0 m (pc + 1) ls (.int (I i x.toNatClampNeg) :: rest))) : W p l e R s m args below meth c H locs cells slots Q (F0 m pc ls (.int x :: .ref (ad i) :: rest)) := by
  have hlt : x.toNatClampNeg < n := Nat.not_le.mp fun q => hin (Or.inr q)
  exact W.iald (v := .int (I i x.toNatClampNeg)) hexec hb (hW.1 i _ hi) ((hK.2.1 .int (by simp [z_tys])).1 n _) (fun q => by cases q) (by show ¬ (x < 0 ∨ (arrV _ _ _).slots.size ≤ _); rw [arrV_size]; exact hin) (by show (arrV _ _ _).slots[_]? = _; rw [arrV_read _ _ hlt]; rfl) rfl rfl hdg kk
theorem z_iast (hexec : p.tables.exec = Jvm.exec) (hb : c.code = cc) (hK : z_K G s) (hW : z_W G A (sh, ad, I, J, P) H) (hS : va_S A H0 H locs) {n : Nat} (hi : sh i = some (.inl (.int, n))) {x y : Int32} (hin : vp_in x n) (hdg : decode cc pc = .ok (.iastore, 1))
    (kk : ∀ (H1 : Heap) (locs1 : List Loc), H1.size = H.size → z_W G A (sh, ad, z_up I i x.toNatClampNeg y, J, P) H1 → va_S A H0 H1 locs1 → W p l e R s m args below meth c H1 locs1 cells slots Q (F0 m (pc + 1) ls rest)) : W p l e R s m args below meth c H locs cells slots Q (F0 m pc ls (.int y :: .int x :: .ref (ad i) :: rest)) := by
  refine W.iast hexec hb (hW.1 i _ hi) ((hK.2.1 .int (by simp [z_tys])).1 n _) (fun q => by cases q) (by show ¬ (x < 0 ∨ (arrV _ _ _).slots.size ≤ _); rw [arrV_size]; exact hin) rfl rfl hdg fun H1 e1 z oq => ?_
  refine kk H1 _ z (hW.one rfl rfl hi ?_ oq (fun j hj ty b => z_vI (Or.inl hj) ty)) (hS.put z oq (hW.2.2 i (z_ne hi)))
  show H1[ad i]? = some (arrV (G.2 .int) n _)
  rw [e1]
  rw [arrV_store]
  congr 2
  funext q
  by_cases hq : q = x.toNatClampNeg
  · subst hq
    simp [updV, z_v, z_up]
  · simp [updV, z_v, z_up, hq]
theorem z_topi {x v : Int32} (h : x = v) (k : W p l e R s m args below meth c H locs cells slots Q (F0 m pc ls (.int v :: rest))) : W p l e R s m args below meth c H locs cells slots Q (F0 m pc ls (.int x :: rest)) := by rw [h]; exact k
theorem z_topl {x v : Int64} (h : x = v) (k : W p l e R s m args below meth c H locs cells slots Q (F0 m pc ls (.long v :: rest))) : W p l e R s m args below meth c H locs cells slots Q (F0 m pc ls (.long x :: rest)) := by rw [h]; exact k
theorem z_alen (hexec : p.tables.exec = Jvm.exec) (hb : c.code = cc) (hK : z_K G s) (hW : z_W G A (sh, ad, I, J, P) H) {ty : FieldType} {n : Nat} {v : Int32} (hi : sh i = some (.inl (ty, n))) (hty : ty ∈ z_tys) (hn : n.toInt32 = v) (hdg : decode cc pc = .ok (.arraylength, 1))
    (kk : W p l e R s m args below meth c H locs cells slots Q (F0 m (pc + 1) ls (.int v :: rest))) : W p l e R s m args below meth c H locs cells slots Q (F0 m pc ls (.ref (ad i) :: rest)) :=
  W.alen hexec hb (hW.1 i _ hi) ((hK.2.1 ty hty).1 n _) (by show (arrV _ _ _).slots.size.toInt32 = v; rw [arrV_size]; exact hn) rfl rfl hdg kk
theorem z_bald (hexec : p.tables.exec = Jvm.exec) (hb : c.code = cc) (hK : z_K G s) (hW : z_W G A (sh, ad, I, J, P) H) {n : Nat} (hi : sh i = some (.inl (.byte, n))) {x : Int32} (hin : vp_in x n) (hdg : decode cc pc = .ok (.baload, 1))
    (kk : W p l e R s m args below meth c H locs cells slots Q (F0 m (pc + 1) ls (.int (I i x.toNatClampNeg) :: rest))) : W p l e R s m args below meth c H locs cells slots Q (F0 m pc ls (.int x :: .ref (ad i) :: rest)) := by
  have hlt : x.toNatClampNeg < n := Nat.not_le.mp fun q => hin (Or.inr q)
  exact W.bald (v := .int (I i x.toNatClampNeg)) hexec hb (hW.1 i _ hi) ((hK.2.1 .byte (by simp [z_tys])).1 n _) (fun q => by cases q) (by show ¬ (x < 0 ∨ (arrV _ _ _).slots.size ≤ _); rw [arrV_size]; exact hin) (by show (arrV _ _ _).slots[_]? = _; rw [arrV_read _ _ hlt]; rfl) rfl rfl hdg kk
theorem z_zald (hexec : p.tables.exec = Jvm.exec) (hb : c.code = cc) (hK : z_K G s) (hW : z_W G A (sh, ad, I, J, P) H) {n : Nat} (hi : sh i = some (.inl (.boolean, n))) {x : Int32} (hin : vp_in x n) (hdg : decode cc pc = .ok (.baload, 1))
    (kk : W p l e R s m args below meth c H locs cells slots Q (F0 m (pc + 1) ls (.int (I i x.toNatClampNeg) :: rest))) : W p l e R s m args below meth c H locs cells slots Q (F0 m pc ls (.int x :: .ref (ad i) :: rest)) := by
  have hlt : x.toNatClampNeg < n := Nat.not_le.mp fun q => hin (Or.inr q)
  exact W.zald (v := .int (I i x.toNatClampNeg)) hexec hb (hW.1 i _ hi) ((hK.2.1 .boolean (by simp [z_tys])).1 n _) (fun q => by cases q) (by show ¬ (x < 0 ∨ (arrV _ _ _).slots.size ≤ _); rw [arrV_size]; exact hin) (by show (arrV _ _ _).slots[_]? = _; rw [arrV_read _ _ hlt]; rfl) rfl rfl hdg kk
theorem z_lald (hexec : p.tables.exec = Jvm.exec) (hb : c.code = cc) (hK : z_K G s) (hW : z_W G A (sh, ad, I, J, P) H) {n : Nat} (hi : sh i = some (.inl (.long, n))) {x : Int32} (hin : vp_in x n) (hdg : decode cc pc = .ok (.laload, 1))
    (kk : W p l e R s m args below meth c H locs cells slots Q (F0 m (pc + 1) ls (.long (J i x.toNatClampNeg) :: rest))) : W p l e R s m args below meth c H locs cells slots Q (F0 m pc ls (.int x :: .ref (ad i) :: rest)) := by
  have hlt : x.toNatClampNeg < n := Nat.not_le.mp fun q => hin (Or.inr q)
  exact W.lald (v := .long (J i x.toNatClampNeg)) hexec hb (hW.1 i _ hi) ((hK.2.1 .long (by simp [z_tys])).1 n _) (fun q => by cases q) (by show ¬ (x < 0 ∨ (arrV _ _ _).slots.size ≤ _); rw [arrV_size]; exact hin) (by show (arrV _ _ _).slots[_]? = _; rw [arrV_read _ _ hlt]; rfl) rfl rfl hdg kk
theorem z_bast (hexec : p.tables.exec = Jvm.exec) (hb : c.code = cc) (hK : z_K G s) (hW : z_W G A (sh, ad, I, J, P) H) (hS : va_S A H0 H locs) {n : Nat} (hi : sh i = some (.inl (.byte, n))) {x y : Int32} (hin : vp_in x n) (hdg : decode cc pc = .ok (.bastore, 1))
    (kk : ∀ (H1 : Heap) (locs1 : List Loc), H1.size = H.size → z_W G A (sh, ad, z_up I i x.toNatClampNeg (vp_nar .byte y), J, P) H1 → va_S A H0 H1 locs1 → W p l e R s m args below meth c H1 locs1 cells slots Q (F0 m (pc + 1) ls rest)) : W p l e R s m args below meth c H locs cells slots Q (F0 m pc ls (.int y :: .int x :: .ref (ad i) :: rest)) := by
  refine W.bast hexec hb (hW.1 i _ hi) ((hK.2.1 .byte (by simp [z_tys])).1 n _) (fun q => by cases q) (by show ¬ (x < 0 ∨ (arrV _ _ _).slots.size ≤ _); rw [arrV_size]; exact hin) rfl rfl hdg fun H1 e1 z oq => ?_
  refine kk H1 _ z (hW.one rfl rfl hi ?_ oq (fun j hj ty b => z_vI (Or.inl hj) ty)) (hS.put z oq (hW.2.2 i (z_ne hi)))
  show H1[ad i]? = some (arrV (G.2 .byte) n _)
  rw [e1]
  rw [arrV_store]
  congr 2
  funext q
  by_cases hq : q = x.toNatClampNeg
  · subst hq
    simp [updV, z_v, z_up, vp_nar]
    try rfl
  · simp [updV, z_v, z_up, hq]
theorem z_last (hexec : p.tables.exec = Jvm.exec) (hb : c.code = cc) (hK : z_K G s) (hW : z_W G A (sh, ad, I, J, P) H) (hS : va_S A H0 H locs) {n : Nat} (hi : sh i = some (.inl (.long, n))) {x : Int32} {y : Int64} (hin : vp_in x n) (hdg : decode cc pc = .ok (.lastore, 1))
    (kk : ∀ (H1 : Heap) (locs1 : List Loc), H1.size = H.size → z_W G A (sh, ad, I, z_up J i x.toNatClampNeg y, P) H1 → va_S A H0 H1 locs1 → W p l e R s m args below meth c H1 locs1 cells slots Q (F0 m (pc + 1) ls rest)) : W p l e R s m args below meth c H locs cells slots Q (F0 m pc ls (.long y :: .int x :: .ref (ad i) :: rest)) := by
  refine W.last hexec hb (hW.1 i _ hi) ((hK.2.1 .long (by simp [z_tys])).1 n _) (fun q => by cases q) (by show ¬ (x < 0 ∨ (arrV _ _ _).slots.size ≤ _); rw [arrV_size]; exact hin) rfl rfl hdg fun H1 e1 z oq => ?_
  refine kk H1 _ z (hW.one rfl rfl hi ?_ oq (fun j hj ty b => z_vJ (Or.inl hj) ty)) (hS.put z oq (hW.2.2 i (z_ne hi)))
  show H1[ad i]? = some (arrV (G.2 .long) n _)
  rw [e1]
  rw [arrV_store]
  congr 2
  funext q
  by_cases hq : q = x.toNatClampNeg
  · subst hq
    simp [updV, z_v, z_up]
  · simp [updV, z_v, z_up, hq]
theorem z_aald (hexec : p.tables.exec = Jvm.exec) (hb : c.code = cc) (hK : z_K G s) (hW : z_W G A (sh, ad, I, J, P) H) {ty : FieldType} {n : Nat} (hi : sh i = some (.inl (ty, n))) (hty : ty ∈ z_tys) (href : ty.isReference = true) {x : Int32} (hin : vp_in x n) {v : Value} (hv : z_v I J P ty i x.toNatClampNeg = v) (hdg : decode cc pc = .ok (.aaload, 1))
    (kk : W p l e R s m args below meth c H locs cells slots Q (F0 m (pc + 1) ls (v :: rest))) : W p l e R s m args below meth c H locs cells slots Q (F0 m pc ls (.int x :: .ref (ad i) :: rest)) := by
  have hlt : x.toNatClampNeg < n := Nat.not_le.mp fun q => hin (Or.inr q)
  subst hv
  exact W.aald hexec hb (hW.1 i _ hi) ((hK.2.1 ty hty).1 n _) href (fun q => by cases q) (by show ¬ (x < 0 ∨ (arrV _ _ _).slots.size ≤ _); rw [arrV_size]; exact hin) (by show (arrV _ _ _).slots[_]? = _; rw [arrV_read _ _ hlt]) rfl rfl hdg kk
end ZR
/-- arrays and fields that are read alike hold alike -/
theorem z_W.like {G : z_G} {A : Nat → Prop} {sh : Nat → Option z_S} {ad : Nat → Nat} {I I1 : z_I} {J : z_J} {P : z_P} {H : Heap} (i n : Nat) (ty : FieldType) (h : z_W G A (sh, ad, I, J, P) H) (hi : sh i = some (.inl (ty, n))) (ho : ∀ a, a ≠ i → ∀ b, I1 a b = I a b) (hn : ∀ b, b < n → I1 i b = I i b) : z_W G A (sh, ad, I1, J, P) H := by
  refine ⟨fun j x hj => ?_, h.2.1, h.2.2⟩
  have hv : ∀ a b, I1 a b = I a b → ∀ t, z_v I1 J P t a b = z_v I J P t a b := fun a b e t => by cases t <;> simp [z_v, e]
  by_cases e : j = i
  · subst e
    have hx : x = .inl (ty, n) := Option.some.inj (hj.symm.trans hi)
    subst hx
    have h1 : H[ad j]? = some (arrV (G.2 ty) n (fun b => z_v I J P ty j b)) := h.1 j _ hi
    show H[ad j]? = some (arrV (G.2 ty) n (fun b => z_v I1 J P ty j b))
    rw [h1]
    have h2 : (Array.ofFn (n := n) fun b => z_v I J P ty j b.val) = (Array.ofFn (n := n) fun b => z_v I1 J P ty j b.val) := by
      congr 1
      funext b
      exact (hv j b.val (hn b.val b.isLt) ty).symm
    show some ({ cls := G.2 ty, slots := Array.ofFn (n := n) fun b => z_v I J P ty j b.val, vm := .none } : Cell) = some ({ cls := G.2 ty, slots := Array.ofFn (n := n) fun b => z_v I1 J P ty j b.val, vm := .none } : Cell)
    rw [h2]
  · exact (h.1 j x hj).kept rfl rfl (fun t b => hv j b (ho j e b) t)
theorem z_v0 {I : z_I} {J : z_J} {P : z_P} {i k : Nat} {ty : FieldType} (h1 : I i k = 0) (h2 : J i k = 0) (h3 : P i k = none) (h4 : ty ≠ .float ∧ ty ≠ .double) : z_v I J P ty i k = defaultValue ty := by
  cases ty <;> simp_all [z_v, defaultValue, va_rf]
end
section
/-! contracts over flat memory: from the memory u the method answers r and leaves u1, with 'post r u1'; only cells of u, and new ones, change -/
def z_Pc (G : z_G) (u : z_U) (av : List Value) (sz : Nat) : Array Value → State → Prop := va_Pc av (fun U => U.heap.size = sz ∧ z_B G (z_A u sz) u U)
def z_M (l : Launch) (y : MethodName) (ws : List Cond) (rm : Room) (av : List Value) (G : z_G) (u : z_U) (post : Int32 → z_U → Prop) (mc ms : Nat) : Prop := ∀ sz : Nat, Met l y ws rm (z_Pc G u av sz) (va_Qi post (z_B G (z_A u sz)) (z_A u sz)) mc ms (z_A u sz)
def z_Ml (l : Launch) (y : MethodName) (ws : List Cond) (rm : Room) (av : List Value) (G : z_G) (u : z_U) (post : Int64 → z_U → Prop) (mc ms : Nat) : Prop := ∀ sz : Nat, Met l y ws rm (z_Pc G u av sz) (va_Ql post (z_B G (z_A u sz)) (z_A u sz)) mc ms (z_A u sz)
def z_Mv (l : Launch) (y : MethodName) (ws : List Cond) (rm : Room) (av : List Value) (G : z_G) (u : z_U) (post : z_U → Prop) (mc ms : Nat) : Prop := ∀ sz : Nat, Met l y ws rm (z_Pc G u av sz) (va_Qv post (z_B G (z_A u sz)) (z_A u sz)) mc ms (z_A u sz)
theorem z_Pc.blind {G : z_G} {u : z_U} {av : List Value} {sz : Nat} : FrameBlind (z_Pc G u av sz) := by
  intro a U g mk h
  obtain ⟨h1, h2, h3, h4⟩ := h
  exact ⟨h1, h2, z_K.same (u := U) (U := U.calling g mk a) rfl h3, h4⟩
theorem z_preV {G : z_G} {A : Nat → Prop} {u : z_U} {s : State} {H : Heap} {i ci : Nat} {C : String} {T : u_T} {N : Nat} {As : List Value} (hK : z_K G s) (hW : z_W G A u H) (hi : u.1 i = some (.inr ci)) (hc : vwCl[ci]? = some (C, T, N)) : PreV s H C (u.2.1 i) (z_Pc G u (.ref (u.2.1 i) :: As) H.size) As := by
  refine ⟨z_Pc.blind, ?_, fun U hU hWm => ⟨rfl, by rw [hU], hK.warm hWm, by rw [hU]; exact hW.self⟩⟩
  obtain ⟨r, h1, cell, q1, q2, q3, q4⟩ := hW.1 i _ hi
  have hr : r = (C, T, N) := Option.some.inj (h1.symm.trans hc)
  subst hr
  exact ⟨cell, q1, by rw [q3]; rfl, by rw [q2]; exact (hK.1 ci _ hc).2.1⟩
theorem z_preS {G : z_G} {A : Nat → Prop} {u : z_U} {s : State} {H : Heap} {As : List Value} (hK : z_K G s) (hW : z_W G A u H) : PreS s H (z_Pc G u As H.size) As :=
  ⟨z_Pc.blind, fun U hU hWm => ⟨rfl, by rw [hU], hK.warm hWm, by rw [hU]; exact hW.self⟩⟩
section ZC
variable {p : Program} {l : Launch} {e : Env} {R : Room} {s : State} {m : MethodId} {args : Array Value} {below : List Frame} {meth : Method} {c : Code} {H : Heap} {locs : List Loc} {cells slots : Nat} {Q : State → Prop}
variable {cc : ByteArray} {pc : Nat} {ls : Array Slot} {rest st0 : List Value} {a : Array Value} {G : z_G} {A : Nat → Prop} {H0 : Heap} {u : z_U} {mc ms : Nat}
theorem z_ci {post : Int32 → z_U → Prop} (hW : z_W G A u H) (hS : va_S A H0 H locs) (hA : ∀ q : Nat, H0.size ≤ q → A q) (hr : va_Run p l e R s m args below meth c H locs cells slots mc ms (F0 m pc ls st0) rest (va_Qi post (z_B G (z_A u H.size)) (z_A u H.size) a) (z_A u H.size))
    (kk : ∀ (r : Int32) (u1 : z_U) (H1 : Heap) (locs1 : List Loc), post r u1 → z_W G A u1 H1 → va_S A H0 H1 locs1 → W p l e R s m args below meth c H1 locs1 (cells + mc) (slots + ms) Q (F0 m (pc + 3) ls (.int r :: rest))) : W p l e R s m args below meth c H locs cells slots Q (F0 m pc ls st0) :=
  va_calli hr hS (fun q _ h => hW.free hS hA q h) (hW.free hS hA) (fun r u1 t H1 locs1 ht hvm hw hB hz1 hk1 hS1 => kk r u1 H1 locs1 hw (by rw [← ht]; exact hB.2.weaken (hW.free hS hA)) hS1)
theorem z_cl {post : Int64 → z_U → Prop} (hW : z_W G A u H) (hS : va_S A H0 H locs) (hA : ∀ q : Nat, H0.size ≤ q → A q) (hr : va_Run p l e R s m args below meth c H locs cells slots mc ms (F0 m pc ls st0) rest (va_Ql post (z_B G (z_A u H.size)) (z_A u H.size) a) (z_A u H.size))
    (kk : ∀ (r : Int64) (u1 : z_U) (H1 : Heap) (locs1 : List Loc), post r u1 → z_W G A u1 H1 → va_S A H0 H1 locs1 → W p l e R s m args below meth c H1 locs1 (cells + mc) (slots + ms) Q (F0 m (pc + 3) ls (.long r :: rest))) : W p l e R s m args below meth c H locs cells slots Q (F0 m pc ls st0) :=
  va_calll hr hS (fun q _ h => hW.free hS hA q h) (hW.free hS hA) (fun r u1 t H1 locs1 ht hvm hw hB hz1 hk1 hS1 => kk r u1 H1 locs1 hw (by rw [← ht]; exact hB.2.weaken (hW.free hS hA)) hS1)
theorem z_cv {post : z_U → Prop} (hW : z_W G A u H) (hS : va_S A H0 H locs) (hA : ∀ q : Nat, H0.size ≤ q → A q) (hr : va_Run p l e R s m args below meth c H locs cells slots mc ms (F0 m pc ls st0) rest (va_Qv post (z_B G (z_A u H.size)) (z_A u H.size) a) (z_A u H.size))
    (kk : ∀ (u1 : z_U) (H1 : Heap) (locs1 : List Loc), post u1 → z_W G A u1 H1 → va_S A H0 H1 locs1 → W p l e R s m args below meth c H1 locs1 (cells + mc) (slots + ms) Q (F0 m (pc + 3) ls rest)) : W p l e R s m args below meth c H locs cells slots Q (F0 m pc ls st0) :=
  va_callv hr hS (fun q _ h => hW.free hS hA q h) (hW.free hS hA) (fun u1 t H1 locs1 ht hvm hw hB hz1 hk1 hS1 => kk u1 H1 locs1 hw (by rw [← ht]; exact hB.2.weaken (hW.free hS hA)) hS1)
/-- a method's ends -/
theorem z_iret {post : Int32 → z_U → Prop} {v : Int32} (hexec : p.tables.exec = Jvm.exec) (hb : c.code = cc) (hr : meth.sig.returnType = some .int) (hK : z_K G s) (hS : va_S A s.heap H locs) (hc : cells ≤ mc) (hs : slots ≤ ms) (hlocks : meth.locks = false) (hdg : decode cc pc = .ok (.ireturn, 1)) (u1 : z_U) (hW : z_W G A u1 H) (hp : post v u1) : W p l e R s m args below meth c H locs cells slots (MQ below (va_Qi post (z_B G A) A) args s mc ms A) (F0 m pc ls [.int v]) :=
  W.widen hc hs (W.iret hexec hb hr (fun t ht hWm => ⟨⟨v, u1, rfl, hp, hK.warm hWm, by rw [ht]; exact hW⟩, hS.F ht⟩) hS.2.2 hdg hlocks)
theorem z_zret {post : Int32 → z_U → Prop} {v : Int32} (hexec : p.tables.exec = Jvm.exec) (hb : c.code = cc) (hr : meth.sig.returnType = some .boolean) (hn : narrow .boolean (.int v) = .int v) (hK : z_K G s) (hS : va_S A s.heap H locs) (hc : cells ≤ mc) (hs : slots ≤ ms) (hlocks : meth.locks = false) (hdg : decode cc pc = .ok (.ireturn, 1)) (u1 : z_U) (hW : z_W G A u1 H) (hp : post v u1) : W p l e R s m args below meth c H locs cells slots (MQ below (va_Qi post (z_B G A) A) args s mc ms A) (F0 m pc ls [.int v]) :=
  W.widen hc hs (W.zret hexec hb hr hn (fun t ht hWm => ⟨⟨v, u1, rfl, hp, hK.warm hWm, by rw [ht]; exact hW⟩, hS.F ht⟩) hS.2.2 hdg hlocks)
theorem z_lret {post : Int64 → z_U → Prop} {v : Int64} (hexec : p.tables.exec = Jvm.exec) (hb : c.code = cc) (hr : meth.sig.returnType = some .long) (hK : z_K G s) (hS : va_S A s.heap H locs) (hc : cells ≤ mc) (hs : slots ≤ ms) (hlocks : meth.locks = false) (hdg : decode cc pc = .ok (.lreturn, 1)) (u1 : z_U) (hW : z_W G A u1 H) (hp : post v u1) : W p l e R s m args below meth c H locs cells slots (MQ below (va_Ql post (z_B G A) A) args s mc ms A) (F0 m pc ls [.long v]) :=
  W.widen hc hs (W.lret hexec hb hr (fun t ht hWm => ⟨⟨v, u1, rfl, hp, hK.warm hWm, by rw [ht]; exact hW⟩, hS.F ht⟩) hS.2.2 hdg hlocks)
theorem z_vret {post : z_U → Prop} (hexec : p.tables.exec = Jvm.exec) (hb : c.code = cc) (hr : meth.sig.returnType = none) (hK : z_K G s) (hS : va_S A s.heap H locs) (hc : cells ≤ mc) (hs : slots ≤ ms) (hlocks : meth.locks = false) (hdg : decode cc pc = .ok (.return_, 1)) (u1 : z_U) (hW : z_W G A u1 H) (hp : post u1) : W p l e R s m args below meth c H locs cells slots (MQ below (va_Qv post (z_B G A) A) args s mc ms A) (F0 m pc ls []) :=
  W.widen hc hs (W.vret hexec hb hr (fun t ht hWm => ⟨⟨u1, rfl, hp, hK.warm hWm, by rw [ht]; exact hW⟩, hS.F ht⟩) hS.2.2 hdg hlocks)
end ZC
/-- a method that leaves the memory u1, the heap longer by n cells -/
def z_Mc (l : Launch) (y : MethodName) (ws : List Cond) (rm : Room) (av : List Value) (G : z_G) (u u1 : z_U) (n mc ms sz : Nat) : Prop := Met l y ws rm (z_Pc G u av sz) (va_Qv (fun u2 : z_U => u2 = u1) (fun u2 t => z_B G (z_A u sz) u2 t ∧ t.heap.size = sz + n) (z_A u sz)) mc ms (z_A u sz)
section ZCC
variable {p : Program} {l : Launch} {e : Env} {R : Room} {s : State} {m : MethodId} {args : Array Value} {below : List Frame} {meth : Method} {c : Code} {H : Heap} {locs : List Loc} {cells slots : Nat} {Q : State → Prop}
variable {cc : ByteArray} {pc : Nat} {ls : Array Slot} {rest st0 : List Value} {a : Array Value} {G : z_G} {A : Nat → Prop} {H0 : Heap} {u u1 : z_U} {mc ms n : Nat}
theorem z_cc (hW : z_W G A u H) (hS : va_S A H0 H locs) (hA : ∀ q : Nat, H0.size ≤ q → A q) (hr : va_Run p l e R s m args below meth c H locs cells slots mc ms (F0 m pc ls st0) rest (va_Qv (fun u2 : z_U => u2 = u1) (fun u2 t => z_B G (z_A u H.size) u2 t ∧ t.heap.size = H.size + n) (z_A u H.size) a) (z_A u H.size))
    (kk : ∀ (H1 : Heap) (locs1 : List Loc), H1.size = H.size + n → z_W G A u1 H1 → va_S A H0 H1 locs1 → W p l e R s m args below meth c H1 locs1 (cells + mc) (slots + ms) Q (F0 m (pc + 3) ls rest)) : W p l e R s m args below meth c H locs cells slots Q (F0 m pc ls st0) :=
  va_callv hr hS (fun q _ h => hW.free hS hA q h) (hW.free hS hA) (fun u2 t H1 locs1 ht hvm hw hB hz1 hk1 hS1 => kk H1 locs1 (by rw [← ht]; exact hB.2) (by rw [← ht, ← hw]; exact hB.1.2.weaken (hW.free hS hA)) hS1)
theorem z_cret {sz : Nat} (hexec : p.tables.exec = Jvm.exec) (hb : c.code = cc) (hr : meth.sig.returnType = none) (hK : z_K G s) (hS : va_S A s.heap H locs) (hc : cells ≤ mc) (hs : slots ≤ ms) (hlocks : meth.locks = false) (hdg : decode cc pc = .ok (.return_, 1)) (hz : H.size = sz + n) (hW : z_W G A u1 H) : W p l e R s m args below meth c H locs cells slots (MQ below (va_Qv (fun u2 : z_U => u2 = u1) (fun u2 t => z_B G A u2 t ∧ t.heap.size = sz + n) A) args s mc ms A) (F0 m pc ls []) :=
  W.widen hc hs (W.vret hexec hb hr (fun t ht hWm => ⟨⟨u1, rfl, rfl, ⟨hK.warm hWm, by rw [ht]; exact hW⟩, by rw [ht]; exact hz⟩, hS.F ht⟩) hS.2.2 hdg hlocks)
end ZCC
/-- what stands at a method's entry -/
def z_In (p : Program) (s : State) (m : MethodId) (meth : Method) (c : Code) (y : MethodName) (cc : ByteArray) (maxL : Nat) (ret : Option FieldType) (ws : List Cond) (av : List Value) : Prop :=
  p.tables.exec = Jvm.exec ∧ c.code = cc ∧ meth.sig.returnType = ret ∧ c.maxLocals = maxL ∧ s.vm.findClass y.cls = some m.cls ∧ (∀ w ∈ ws, w.before av.toArray s = true) ∧ meth.locks = false ∧ meth.name = y.name
theorem z_headQ {l : Launch} {y : MethodName} {ws ws' : List Cond} {rm : Room} {av : List Value} {G : z_G} {u : z_U} {sz mc ms maxL : Nat} {cc : ByteArray} {ret : Option FieldType} {Qc : Array Value → State → Outcome → State → Prop} (hy : plainName y.cls = true) (hw : ws = Cond.code y cc maxL ret :: ws') (hlen : (lg_sl av).length ≤ maxL)
    (body : ∀ (p : Program) (e : Env) (s : State) (m : MethodId) (below : List Frame) (meth : Method) (c : Code) (ls : Array Slot), z_In p s m meth c y cc maxL ret ws av → z_K G s → s.heap.size = sz → z_W G (z_A u sz) u s.heap → lv_has ls maxL (lv_args 0 av) →
      W p l e (headSpec ws rm).room s m av.toArray below meth c s.heap [] 0 0 (MQ below Qc av.toArray s mc ms (z_A u sz)) (F0 m 0 ls [])) : Met l y ws rm (z_Pc G u av sz) Qc mc ms (z_A u sz) := by
  refine Met.ofW (cc := cc) (maxL := maxL) (ret := ret) hy hw ?_
  intro p e s m args below meth c s₁ B hml hv
  obtain ⟨rfl, hsz, hK, hW⟩ := hv
  have hts := atoms_spec (ws := ws) B.pre
  have hown : s.vm.findClass y.cls = some m.cls := findClass_of_methodNamed B.named
  rw [lg_entry_eq]
  exact body p e s m below meth c _ ⟨B.exec, B.bytes, B.returns, hml, hown, hts, B.notSynchronized, (name_of_methodNamed B.named B.method).1⟩ hK hsz hW (lv_entry av hlen)
end
section
/-! cells that are made: cell i lies at the heap's end; ad1 is where cells lie then (z_ad ad i q, or ad itself where it was foreseen) -/
def z_sh (sh : Nat → Option z_S) (i : Nat) (x : z_S) : Nat → Option z_S := fun j => if j = i then some x else sh j
def z_ad (ad : Nat → Nat) (i q : Nat) : Nat → Nat := fun j => if j = i then q else ad j
def z_fi (I : z_I) (i : Nat) (v : Int32) : z_I := fun a b => if a = i then v else I a b
theorem z_ad_s {ad : Nat → Nat} {i q : Nat} : z_ad ad i q i = q := by simp [z_ad]
theorem z_ad_n {ad : Nat → Nat} {i q : Nat} : ∀ j, j ≠ i → z_ad ad i q j = ad j := fun j h => by simp [z_ad, h]
theorem z_W.add {G : z_G} {A : Nat → Prop} {sh : Nat → Option z_S} {ad ad1 : Nat → Nat} {I : z_I} {J : z_J} {P : z_P} {H H1 : Heap} {i : Nat} {x : z_S} (h : z_W G A (sh, ad, I, J, P) H) (h1 : ad1 i = H.size) (h2 : ∀ j, j ≠ i → ad1 j = ad j) (hA : A H.size) (oq : ∀ a : Nat, a < H.size → H1[a]? = H[a]?) (hc : z_c G (z_sh sh i x, ad1, I, J, P) i x H1) : z_W G A (z_sh sh i x, ad1, I, J, P) H1 := by
  have key : ∀ j, z_sh sh i x j ≠ none → (j = i ∧ ad1 j = H.size) ∨ (j ≠ i ∧ sh j ≠ none ∧ ad1 j = ad j ∧ ad j < H.size) := by
    intro j hj
    by_cases e : j = i
    · exact Or.inl ⟨e, by rw [e]; exact h1⟩
    · have h3 : sh j ≠ none := by simpa [z_sh, e] using hj
      exact Or.inr ⟨e, h3, h2 j e, h.lt h3⟩
  refine ⟨fun j y hj => ?_, fun a b ha hb hab => ?_, fun a ha => ?_⟩
  · by_cases e : j = i
    · subst e
      have hy : x = y := by simpa [z_sh] using hj
      subst hy
      exact hc
    · have hj' : sh j = some y := by simpa [z_sh, e] using hj
      have hl := h.lt (i := j) (z_ne hj')
      exact (h.1 j y hj').kept (h2 j e) (oq _ hl) (fun _ _ => rfl)
  · have hab' : ad1 a = ad1 b := hab
    rcases key a ha with ⟨e1, v1⟩ | ⟨e1, n1, v1, l1⟩ <;> rcases key b hb with ⟨e2, v2⟩ | ⟨e2, n2, v2, l2⟩
    · rw [e1, e2]
    · omega
    · omega
    · exact h.2.1 a b n1 n2 (by rw [v1, v2] at hab'; exact hab')
  · rcases key a ha with ⟨e1, v1⟩ | ⟨e1, n1, v1, l1⟩
    · show A (ad1 a)
      rw [v1]
      exact hA
    · show A (ad1 a)
      rw [v1]
      exact h.2.2 a n1
/-- a cell that lies behind all others, in the same heap -/
theorem z_W.add2 {G : z_G} {A : Nat → Prop} {sh : Nat → Option z_S} {ad : Nat → Nat} {I : z_I} {J : z_J} {P : z_P} {H : Heap} {i : Nat} {x : z_S} (h : z_W G A (sh, ad, I, J, P) H) (hlt : ∀ j, sh j ≠ none → ad j < ad i) (hA : A (ad i)) (hc : z_c G (z_sh sh i x, ad, I, J, P) i x H) : z_W G A (z_sh sh i x, ad, I, J, P) H := by
  have key : ∀ j, z_sh sh i x j ≠ none → j = i ∨ (j ≠ i ∧ sh j ≠ none) := by
    intro j hj
    by_cases e : j = i
    · exact Or.inl e
    · exact Or.inr ⟨e, by simpa [z_sh, e] using hj⟩
  refine ⟨fun j y hj => ?_, fun a b ha hb hab => ?_, fun a ha => ?_⟩
  · by_cases e : j = i
    · subst e
      have hy : x = y := by simpa [z_sh] using hj
      subst hy
      exact hc
    · have hj' : sh j = some y := by simpa [z_sh, e] using hj
      exact (h.1 j y hj').kept rfl rfl (fun _ _ => rfl)
  · have hab' : ad a = ad b := hab
    rcases key a ha with e1 | ⟨e1, n1⟩ <;> rcases key b hb with e2 | ⟨e2, n2⟩
    · rw [e1, e2]
    · have := hlt b n2
      rw [e1] at hab'
      omega
    · have := hlt a n1
      rw [e2] at hab'
      omega
    · exact h.2.1 a b n1 n2 hab'
  · rcases key a ha with e1 | ⟨e1, n1⟩
    · show A (ad a)
      rw [e1]
      exact hA
    · exact h.2.2 a n1
def z_shr (sh : Nat → Option z_S) (i K : Nat) : Nat → Nat → Option z_S
  | 0 => sh
  | n + 1 => z_sh (z_shr sh i K n) (i + 1 + n) (.inl (.int, K))
def z_pr (P : z_P) (i : Nat) (ad : Nat → Nat) : z_P := fun a b => if a = i then some (ad (i + 1 + b)) else P a b
section ZN
variable {p : Program} {l : Launch} {e : Env} {R : Room} {s : State} {m : MethodId} {args : Array Value} {below : List Frame} {meth : Method} {c : Code} {H : Heap} {locs : List Loc} {cells slots : Nat} {Q : State → Prop}
variable {cc : ByteArray} {pc : Nat} {ls : Array Slot} {rest : List Value} {G : z_G} {A : Nat → Prop} {H0 : Heap} {sh : Nat → Option z_S} {ad : Nat → Nat} {I : z_I} {J : z_J} {P : z_P}
theorem z_Sn {A : Nat → Prop} {H0 H H1 : Heap} {locs : List Loc} (h : va_S A H0 H locs) (z : H.size ≤ H1.size) (oq : ∀ q : Nat, q < H.size → H1[q]? = H[q]?) : va_S A H0 H1 locs :=
  ⟨Nat.le_trans h.1 z, fun q h1 h2 => (oq q (Nat.lt_of_lt_of_le h1 h.1)).trans (h.2.1 q h1 h2), h.2.2⟩
/-- an array of ints, longs, bytes, booleans is made: it is cell i -/
theorem z_newa (i : Nat) (ad1 : Nat → Nat) (hexec : p.tables.exec = Jvm.exec) (hb : c.code = cc) {atype : ArrayType} (harr : (Cond.arrayClass (newarray.typeOf atype)).before args s = true) {ty : FieldType} (hty : newarray.typeOf atype = ty) (hK : z_K G s) (hmem : ty ∈ z_tys) (hW : z_W G A (sh, ad, I, J, P) H) (hS : va_S A H0 H locs) (hA : ∀ q : Nat, H0.size ≤ q → A q) (h1 : ad1 i = H.size) (h2 : ∀ j, j ≠ i → ad1 j = ad j)
    {n : Int32} {N' : Nat} (hv : ∀ k, z_v I J P ty i k = defaultValue ty) (hn : ¬ n < 0) (hN : n.toNatClampNeg = N') (hbytes : N' * componentBytes ty ≤ 536870912) (hcells : cells + 1 ≤ R.cells) (hslots : slots + N' ≤ R.slots) (hdg : decode cc pc = .ok (.newarray atype, 2))
    (kk : ∀ (H1 : Heap), H1.size = H.size + 1 → z_W G A (z_sh sh i (.inl (ty, N')), ad1, I, J, P) H1 → va_S A H0 H1 locs → W p l e R s m args below meth c H1 locs (cells + 1) (slots + N') Q (F0 m (pc + 2) ls (.ref (ad1 i) :: rest))) : W p l e R s m args below meth c H locs cells slots Q (F0 m pc ls (.int n :: rest)) := by
  subst hty
  refine va_newaK hexec hb harr rfl hdg rfl hn hN hbytes hcells hslots rfl fun H1 cA e1 z1 o1 hAr hNm => ?_
  have hcA : G.2 (newarray.typeOf atype) = cA := by
    have h := (hK.2.1 _ hmem).2
    have h' : s.vm.findClass ("[" ++ (newarray.typeOf atype).toString) = some (G.2 (newarray.typeOf atype)) := by cases atype <;> exact h
    exact Option.some.inj (h'.symm.trans hNm)
  have hk := kk H1 z1 (hW.add h1 h2 (hA _ hS.1) o1 (by
    show H1[ad1 i]? = some (arrV (G.2 (newarray.typeOf atype)) N' _)
    rw [h1, e1, hcA]
    congr 2
    funext k
    exact (hv k).symm)) (z_Sn hS (by omega) o1)
  rw [h1] at hk
  exact hk
theorem z_new (i : Nat) (ad1 : Nat → Nat) (hexec : p.tables.exec = Jvm.exec) (hb : c.code = cc) {own C : String} {T : u_T} {N ci index : Nat} {Ts : List Cond} (hts : ∀ w ∈ Ts, w.before args s = true) (hin : ∀ w ∈ u_ws C T N, w ∈ Ts) (ty : Nat → FieldType) (hty : ∀ k, k < N → parseFieldDescriptor (T k).2.2.1 = some (ty k)) (hown : s.vm.findClass own = some m.cls) (hcl : (Cond.classLink own index C).before args s = true) (hinst : (Cond.instantiable C N).before args s = true) (hini : (Cond.initialized C).before args s = true)
    (hK : z_K G s) (hW : z_W G A (sh, ad, I, J, P) H) (hS : va_S A H0 H locs) (hA : ∀ q : Nat, H0.size ≤ q → A q) (h1 : ad1 i = H.size) (h2 : ∀ j, j ≠ i → ad1 j = ad j) (hc : vwCl[ci]? = some (C, T, N)) (hv : ∀ k, k < N → defaultValue (ty k) = z_v I J P (z_tf ci k) i k) (hcells : cells + 1 ≤ R.cells) (hslots : slots + N ≤ R.slots) (hdg : decode cc pc = .ok (.new index, 3))
    (kk : ∀ (H1 : Heap), H1.size = H.size + 1 → z_W G A (z_sh sh i (.inr ci), ad1, I, J, P) H1 → va_S A H0 H1 locs → W p l e R s m args below meth c H1 locs (cells + 1) (slots + N) Q (F0 m (pc + 3) ls (.ref (ad1 i) :: rest))) : W p l e R s m args below meth c H locs cells slots Q (F0 m pc ls rest) := by
  have hKn := hK.1 ci _ hc
  refine W.newcK hexec hb hown hcl hinst hini rfl hdg hcells hslots hKn.2.1 rfl fun H1 kC hkC e1 z1 o1 => ?_
  have hk := kk H1 z1 (hW.add h1 h2 (hA _ hS.1) o1 ⟨_, hc, by
    show t_OB (ad1 i) _ _ _ _ _
    rw [h1]
    exact (u_born ty hts hin hKn hkC e1 hty).to hv⟩) (z_Sn hS (by omega) o1)
  rw [h1] at hk
  exact hk
/-- an array of references to objects is made, all null -/
theorem z_newq (i : Nat) (ad1 : Nat → Nat) (hexec : p.tables.exec = Jvm.exec) (hb : c.code = cc) {own C : String} {index : Nat} (hown : s.vm.findClass own = some m.cls) (hclink : (Cond.classLink own index C).before args s = true) (hover : va_AO C s) (hK : z_K G s) (hmem : .object C ∈ z_tys) (hW : z_W G A (sh, ad, I, J, P) H) (hS : va_S A H0 H locs) (hA : ∀ q : Nat, H0.size ≤ q → A q) (h1 : ad1 i = H.size) (h2 : ∀ j, j ≠ i → ad1 j = ad j)
    {n : Int32} {N' : Nat} (hv : ∀ k, P i k = none) (hn : ¬ n < 0) (hN : n.toNatClampNeg = N') (hbytes : N' * 4 ≤ 536870912) (hcells : cells + 1 ≤ R.cells) (hslots : slots + N' ≤ R.slots) (hdg : decode cc pc = .ok (.anewarray index, 3))
    (kk : ∀ (H1 : Heap), H1.size = H.size + 1 → z_W G A (z_sh sh i (.inl (.object C, N')), ad1, I, J, P) H1 → va_S A H0 H1 locs → W p l e R s m args below meth c H1 locs (cells + 1) (slots + N') Q (F0 m (pc + 3) ls (.ref (ad1 i) :: rest))) : W p l e R s m args below meth c H locs cells slots Q (F0 m pc ls (.int n :: rest)) := by
  subst hN
  refine W.anew hexec hb hown hclink (va_AO.use hover) rfl hdg rfl hn hbytes hcells hslots fun cA kA comp f1 f2 f3 f4 => ?_
  generalize hH1 : H.push ({ cls := cA, slots := Array.replicate n.toNatClampNeg .null, vm := .none } : Cell) = H1
  have z1 : H1.size = H.size + 1 := by rw [← hH1, Array.size_push]
  have e1 : H1[H.size]? = some (arrV cA n.toNatClampNeg (fun _ => .null)) := by rw [← hH1, Array.getElem?_push_size, ← arrV_new]
  have o1 : ∀ q : Nat, q < H.size → H1[q]? = H[q]? := fun q hq => by rw [← hH1, Array.getElem?_push, if_neg (Nat.ne_of_lt hq)]
  have hcA : G.2 (.object C) = cA := by
    obtain ⟨kA', comp', -, -, -, h4⟩ := (hK.2.1 _ hmem).2
    exact Option.some.inj (h4.symm.trans f1)
  have hk := kk H1 z1 (hW.add h1 h2 (hA _ hS.1) o1 (by
    show H1[ad1 i]? = some (arrV (G.2 (.object C)) n.toNatClampNeg _)
    rw [h1, e1, hcA]
    congr 2
    funext k
    show _ = va_rf (P i k)
    rw [hv k]
    rfl)) (z_Sn hS (by omega) o1)
  rw [h1] at hk
  exact hk
/-- putfield of a final field in its constructor -/
theorem z_putF {i : Nat} (hexec : p.tables.exec = Jvm.exec) (hb : c.code = cc) {own ref C : String} {T : u_T} {N ci index : Nat} {Ts : List Cond} (hts : ∀ w ∈ Ts, w.before args s = true) (hin : ∀ w ∈ u_ws C T N, w ∈ Ts) (ty0 : Nat → FieldType) (hty : ∀ k, k < N → parseFieldDescriptor (T k).2.2.1 = some (ty0 k)) (hnm : ∀ a, a < N → ∀ b, b < N → a ≠ b → (T a).2.1 ≠ (T b).2.1) (hown : s.vm.findClass own = some m.cls) (hK : z_K G s) (hW : z_W G A (sh, ad, I, J, P) H) (hS0 : va_S A H0 H locs)
    (hi : sh i = some (.inr ci)) (hc : vwCl[ci]? = some (C, T, N)) (k : Nat) (hk : k < N) (hlink : (Cond.fieldLink own index ref (T k).2.1 (T k).2.2.1).before args s = true) (hsame : ∀ x, s.fieldFound? (T k).1 (T k).2.1 (T k).2.2.1 = some x → s.fieldFound? ref (T k).2.1 (T k).2.2.1 = some x) (hfin : (T k).2.2.2 = true) (hin2 : meth.name = "<init>") (hdecl : (T k).1 = own) {v : Value} (hn : narrow (ty0 k) v = v) (hfit : fits (ty0 k) v = true)
    {I1 : z_I} {J1 : z_J} {P1 : z_P} (hv : z_v I1 J1 P1 (z_tf ci k) i k = v) (ho : ∀ a b, a ≠ i ∨ b ≠ k → ∀ ty, z_v I1 J1 P1 ty a b = z_v I J P ty a b)
    (hdg : decode cc pc = .ok (.putfield index, 3)) (kk : ∀ (H1 : Heap) (locs1 : List Loc), H1.size = H.size → z_W G A (sh, ad, I1, J1, P1) H1 → va_S A H0 H1 locs1 → W p l e R s m args below meth c H1 locs1 cells slots Q (F0 m (pc + 3) ls rest)) : W p l e R s m args below meth c H locs cells slots Q (F0 m pc ls (v :: .ref (ad i) :: rest)) := by
  obtain ⟨r, h1, cell, q1, q2, q3, q4⟩ := hW.1 i _ hi
  have hr : r = (C, T, N) := Option.some.inj (h1.symm.trans hc)
  subst hr
  obtain ⟨hS, hfc, kC, hkC, hkind⟩ := hK.1 ci _ hc
  have hap : ∀ x y, x < N → y < N → x ≠ y → (G.1.2 ci) x ≠ (G.1.2 ci) y := by
    intro x y hx hy hne
    obtain ⟨_, _, _, fa, hia, ea⟩ := hS x hx
    obtain ⟨_, _, _, fb, hib, eb⟩ := hS y hy
    rw [← ea, ← eb]
    refine u_apart (u_lays hts hin hx) (u_lays hts hin hy) hia hib ?_
    rw [(State.fieldFound?_type hia (hty x hx)).1, (State.fieldFound?_type hib (hty y hy)).1]
    exact hnm x hx y hy hne
  obtain ⟨cf, kf, fi, f, hf, hsl⟩ := hS k hk
  have hlay := hts _ (hin _ (u_in_lay hk))
  unfold u_lay at hlay
  rw [if_pos hfin] at hlay
  have hst := (u_facts hfc hkC (u_lays hts hin hk) hf).1
  have hcf : m.cls = cf := by
    obtain ⟨_, _, c', _, _, _, -, -, hf', -, -, -, hown2, -⟩ := Cond.laysFinal_spec hlay
    have e1 : c' = cf := by have := hf.symm.trans hf'; simp at this; exact this.1.symm
    rw [hdecl] at hown2
    rw [← e1]; exact Option.some.inj (hown.symm.trans hown2)
  have h6 := u_fits hfc hkC hkind (Or.inr hlay) hf (hty k hk) hn hfit
  refine W.putFinK hexec hb hown hlink (hsame _ hf) hst hcf hin2 (by rw [q2]; exact h6) q1 q3 (by rw [hsl]; exact k2_hasslot (q4 k hk)) rfl rfl hdg fun H' e1 e2 e3 => ?_
  rw [hsl] at e1 ⊢
  refine kk H' _ e2 (hW.one rfl rfl hi ⟨_, hc, _, e1, q2, q3, fun j hj => ?_⟩ e3 (fun j hj ty b => ho j b (Or.inl hj) ty)) (hS0.put e2 e3 (hW.2.2 i (z_ne hi)))
  rw [t_set q4 hap hk v j hj]
  unfold updV
  by_cases e : j = k
  · rw [if_pos e, e, ← hv]
  · rw [if_neg e]
    exact congrArg some (ho i j (Or.inr e) _).symm
end ZN
end
section
theorem dJ7_fill_53178_0 : decode cJ7_fill_53178 0 = .ok (.iconst 0, 1) := by decide +kernel
theorem dJ7_fill_53178_1 : decode cJ7_fill_53178 1 = .ok (.istore_n 2, 1) := by decide +kernel
theorem dJ7_fill_53178_2 : decode cJ7_fill_53178 2 = .ok (.aload_n 0, 1) := by decide +kernel
theorem dJ7_fill_53178_3 : decode cJ7_fill_53178 3 = .ok (.arraylength, 1) := by decide +kernel
theorem dJ7_fill_53178_4 : decode cJ7_fill_53178 4 = .ok (.istore_n 3, 1) := by decide +kernel
theorem dJ7_fill_53178_5 : decode cJ7_fill_53178 5 = .ok (.iload_n 2, 1) := by decide +kernel
theorem dJ7_fill_53178_6 : decode cJ7_fill_53178 6 = .ok (.iload_n 3, 1) := by decide +kernel
theorem dJ7_fill_53178_7 : decode cJ7_fill_53178 7 = .ok (.if_icmp .ge 13, 3) := by decide +kernel
theorem dJ7_fill_53178_20 : decode cJ7_fill_53178 20 = .ok (.return_, 1) := by decide +kernel
theorem dJ7_fill_53178_10 : decode cJ7_fill_53178 10 = .ok (.aload_n 0, 1) := by decide +kernel
theorem dJ7_fill_53178_11 : decode cJ7_fill_53178 11 = .ok (.iload_n 2, 1) := by decide +kernel
theorem dJ7_fill_53178_12 : decode cJ7_fill_53178 12 = .ok (.iload_n 1, 1) := by decide +kernel
theorem dJ7_fill_53178_13 : decode cJ7_fill_53178 13 = .ok (.iastore, 1) := by decide +kernel
theorem dJ7_fill_53178_14 : decode cJ7_fill_53178 14 = .ok (.iinc 2 1, 3) := by decide +kernel
theorem dJ7_fill_53178_17 : decode cJ7_fill_53178 17 = .ok (.goto (-12), 3) := by decide +kernel
/-! java.util.Arrays.fill(int[], int) -/
def z_fiN (I : z_I) (i : Nat) (v : Int32) (n : Nat) : z_I := fun a b => if a = i then (if b < n then v else I a b) else I a b
theorem z_fiN_s (I : z_I) (i : Nat) (v : Int32) (n : Nat) : z_up (z_fiN I i v n) i n v = z_fiN I i v (n + 1) := by
  funext a b
  by_cases h : a = i
  · by_cases h2 : b = n
    · simp [z_up, z_fiN, h, h2]
    · by_cases h3 : b < n
      · simp [z_up, z_fiN, h, h2, h3, Nat.lt_succ_of_lt h3]
      · have h4 : ¬ b < n + 1 := by omega
        simp [z_up, z_fiN, h, h2, h3, h4]
  · simp [z_up, z_fiN, h]
theorem z_fiN_0 (I : z_I) (i : Nat) (v : Int32) : z_fiN I i v 0 = I := by
  funext a b
  simp [z_fiN]
set_option maxHeartbeats 4000000 in
set_option maxRecDepth 100000 in
theorem ct_fill (l : Launch) (G : z_G) {sh : Nat → Option z_S} {ad : Nat → Nat} {I : z_I} {J : z_J} {P : z_P} (i n : Nat) (v : Int32) (hi : sh i = some (.inl (.int, n))) (hn : n < 2 ^ 31) (sz : Nat) : z_Mc l yJ7_fill_53178 wsJ7_fill_53178 { frames := 1, cells := 0, slots := 0, locals := 12 } [.ref (ad i), .int v] G (sh, ad, I, J, P) (sh, ad, z_fi I i v, J, P) 0 0 0 sz := by
  refine z_headQ (cc := cJ7_fill_53178) (maxL := 4) (ret := none) (by decide) rfl (Nat.le_of_ble_eq_true rfl) ?_
  intro p e s m below meth c ls hIn hK hsz hW hl
  obtain ⟨hx, hb, hr, hml, hown, hts, hlocks, hname⟩ := hIn
  subst hsz
  generalize hAe : z_A (sh, ad, I, J, P) s.heap.size = A at *
  have hS : va_S A s.heap s.heap [] := va_S.rf
  have hl : lv_has ls 4 [(0, .ref (ad i)), (1, .int v)] := hl
  refine lv_iconst (v := 0) hx hb dJ7_fill_53178_0 (by decide) ?_
  refine lv_istore_n (lv' := [(2, .int 0), (0, .ref (ad i)), (1, .int v)]) hx hb dJ7_fill_53178_1 rfl hl (by decide) rfl (fun ls hl => ?_)
  refine lv_aload_n hx hb dJ7_fill_53178_2 rfl (lv_at hl 1 rfl) ?_
  refine z_alen (i := i) (v := nI n) hx hb hK hW hi (by simp [z_tys]) rfl dJ7_fill_53178_3 ?_
  refine lv_istore_n (lv' := [(3, .int (nI n)), (2, .int 0), (0, .ref (ad i)), (1, .int v)]) hx hb dJ7_fill_53178_4 rfl hl (by decide) rfl (fun ls hl => ?_)
  have loop : ∀ (f j : Nat) (H : Heap) (locs : List Loc) (ls : Array Slot), j ≤ n → n < j + f → H.size = s.heap.size + 0 → z_W G A (sh, ad, z_fiN I i v j, J, P) H → va_S A s.heap H locs → lv_has ls 4 [(2, .int (nI j)), (3, .int (nI n)), (0, .ref (ad i)), (1, .int v)] →
      W p l e (headSpec wsJ7_fill_53178 { frames := 1, cells := 0, slots := 0, locals := 12 }).room s m ([Value.ref (ad i), .int v] : List Value).toArray below meth c H locs 0 0 (MQ below (va_Qv (fun u2 : z_U => u2 = (sh, ad, z_fi I i v, J, P)) (fun u2 t => z_B G A u2 t ∧ t.heap.size = s.heap.size + 0) A) ([Value.ref (ad i), .int v] : List Value).toArray s 0 0 A) (F0 m 5 ls []) := by
    intro f
    induction f with
    | zero => intro j H locs ls h1 h2; exact absurd h2 (by omega)
    | succ f ih =>
      intro j H locs ls h1 h2 hz hW hS hl
      refine lv_iload_n hx hb dJ7_fill_53178_5 rfl (lv_at hl 0 rfl) ?_
      refine lv_iload_n hx hb dJ7_fill_53178_6 rfl (lv_at hl 1 rfl) ?_
      refine lv_icmp_ge (tgt := 20) hx hb dJ7_fill_53178_7 (by decide) (fun c1 => ?_) (fun c1 => ?_)
      · have hj : j = n := by
          rcases Nat.lt_or_ge j n with q | q
          · exact absurd c1 (nI_ge q hn)
          · omega
        subst hj
        refine z_cret hx hb hr hK hS (Nat.le_refl _) (Nat.le_refl _) hlocks dJ7_fill_53178_20 hz (hW.like i j .int hi (fun a h b => by simp [z_fiN, z_fi, h]) (fun b h => by simp [z_fiN, z_fi, h]))
      · have hj : j < n := by
          rcases Nat.lt_or_ge j n with q | q
          · exact q
          · exact absurd (by rw [show j = n by omega]; exact nI_le (Nat.le_refl n) hn) c1
        refine lv_aload_n hx hb dJ7_fill_53178_10 rfl (lv_at hl 2 rfl) ?_
        refine lv_iload_n hx hb dJ7_fill_53178_11 rfl (lv_at hl 0 rfl) ?_
        refine lv_iload_n hx hb dJ7_fill_53178_12 rfl (lv_at hl 3 rfl) ?_
        refine z_iast (i := i) hx hb hK hW hS hi (vp_in_nI hj hn) dJ7_fill_53178_13 (fun H locs hz1 hW hS => ?_)
        rw [nI_clamp (by omega), z_fiN_s] at hW
        refine lv_iinc (v := nI (j + 1)) (lv' := [(2, .int (nI (j + 1))), (3, .int (nI n)), (0, .ref (ad i)), (1, .int v)]) hx hb dJ7_fill_53178_14 hl (k := 0) rfl (nI_1 j) (by decide) rfl (fun ls hl => ?_)
        refine lv_goto (tgt := 5) hx hb dJ7_fill_53178_17 (by decide) ?_
        exact ih (j + 1) H locs ls (by omega) (by omega) (by rw [hz1]; exact hz) hW hS hl
  exact loop (n + 1) 0 s.heap [] ls (Nat.zero_le n) (by omega) rfl (by rw [z_fiN_0]; exact hW) hS (lv_sub hl [1, 0, 2, 3] rfl)
end
section
theorem dX11_within_0 : decode cX11_within 0 = .ok (.iload_n 0, 1) := by decide +kernel
theorem dX11_within_1 : decode cX11_within 1 = .ok (.iload_n 1, 1) := by decide +kernel
theorem dX11_within_2 : decode cX11_within 2 = .ok (.if_icmp .lt 12, 3) := by decide +kernel
theorem dX11_within_14 : decode cX11_within 14 = .ok (.iconst 0, 1) := by decide +kernel
theorem dX11_within_15 : decode cX11_within 15 = .ok (.ireturn, 1) := by decide +kernel
theorem dX11_within_5 : decode cX11_within 5 = .ok (.iload_n 0, 1) := by decide +kernel
theorem dX11_within_6 : decode cX11_within 6 = .ok (.iload_n 2, 1) := by decide +kernel
theorem dX11_within_7 : decode cX11_within 7 = .ok (.if_icmp .gt 7, 3) := by decide +kernel
theorem dX11_within_10 : decode cX11_within 10 = .ok (.iconst 1, 1) := by decide +kernel
theorem dX11_within_11 : decode cX11_within 11 = .ok (.goto 4, 3) := by decide +kernel
theorem dX12_within_0 : decode cX12_within 0 = .ok (.iload_n 0, 1) := by decide +kernel
theorem dX12_within_1 : decode cX12_within 1 = .ok (.iload_n 1, 1) := by decide +kernel
theorem dX12_within_2 : decode cX12_within 2 = .ok (.if_icmp .lt 12, 3) := by decide +kernel
theorem dX12_within_14 : decode cX12_within 14 = .ok (.iconst 0, 1) := by decide +kernel
theorem dX12_within_15 : decode cX12_within 15 = .ok (.ireturn, 1) := by decide +kernel
theorem dX12_within_5 : decode cX12_within 5 = .ok (.iload_n 0, 1) := by decide +kernel
theorem dX12_within_6 : decode cX12_within 6 = .ok (.iload_n 2, 1) := by decide +kernel
theorem dX12_within_7 : decode cX12_within 7 = .ok (.if_icmp .gt 7, 3) := by decide +kernel
theorem dX12_within_10 : decode cX12_within 10 = .ok (.iconst 1, 1) := by decide +kernel
theorem dX12_within_11 : decode cX12_within 11 = .ok (.goto 4, 3) := by decide +kernel
theorem dX11_isDay_0 : decode cX11_isDay 0 = .ok (.iload_n 0, 1) := by decide +kernel
theorem dX11_isDay_1 : decode cX11_isDay 1 = .ok (.iconst 0, 1) := by decide +kernel
theorem dX11_isDay_2 : decode cX11_isDay 2 = .ok (.sipush 719, 3) := by decide +kernel
set_option maxRecDepth 20000 in
theorem ggX11_isDay_X11_within : GoodIn wsX11_isDay wsX11_within := goodIn_r _ [4] (by decide +kernel) (by decide +kernel)
set_option maxRecDepth 20000 in
theorem gX11_isDay_X11_within : GoodIn wsX11_isDay (va_wsS RX11 88 yX11_within wsX11_within) := goodIn_app (goodIn_of _ (by decide +kernel)) ggX11_isDay_X11_within
theorem dX11_isDay_5 : decode cX11_isDay 5 = .ok (.invokestatic 88, 3) := by decide +kernel
theorem dX11_isDay_8 : decode cX11_isDay 8 = .ok (.ireturn, 1) := by decide +kernel
theorem dX11_isMonth_0 : decode cX11_isMonth 0 = .ok (.iload_n 0, 1) := by decide +kernel
theorem dX11_isMonth_1 : decode cX11_isMonth 1 = .ok (.iconst 0, 1) := by decide +kernel
theorem dX11_isMonth_2 : decode cX11_isMonth 2 = .ok (.bipush 23, 2) := by decide +kernel
set_option maxRecDepth 20000 in
theorem ggX11_isMonth_X11_within : GoodIn wsX11_isMonth wsX11_within := goodIn_r _ [4] (by decide +kernel) (by decide +kernel)
set_option maxRecDepth 20000 in
theorem gX11_isMonth_X11_within : GoodIn wsX11_isMonth (va_wsS RX11 88 yX11_within wsX11_within) := goodIn_app (goodIn_of _ (by decide +kernel)) ggX11_isMonth_X11_within
theorem dX11_isMonth_4 : decode cX11_isMonth 4 = .ok (.invokestatic 88, 3) := by decide +kernel
theorem dX11_isMonth_7 : decode cX11_isMonth 7 = .ok (.ireturn, 1) := by decide +kernel
theorem dX11_isReason_0 : decode cX11_isReason 0 = .ok (.iload_n 0, 1) := by decide +kernel
theorem dX11_isReason_1 : decode cX11_isReason 1 = .ok (.iconst 0, 1) := by decide +kernel
theorem dX11_isReason_2 : decode cX11_isReason 2 = .ok (.iconst 4, 1) := by decide +kernel
set_option maxRecDepth 20000 in
theorem ggX11_isReason_X11_within : GoodIn wsX11_isReason wsX11_within := goodIn_r _ [4] (by decide +kernel) (by decide +kernel)
set_option maxRecDepth 20000 in
theorem gX11_isReason_X11_within : GoodIn wsX11_isReason (va_wsS RX11 88 yX11_within wsX11_within) := goodIn_app (goodIn_of _ (by decide +kernel)) ggX11_isReason_X11_within
theorem dX11_isReason_3 : decode cX11_isReason 3 = .ok (.invokestatic 88, 3) := by decide +kernel
theorem dX11_isReason_6 : decode cX11_isReason 6 = .ok (.ireturn, 1) := by decide +kernel
theorem dX12_isDay_0 : decode cX12_isDay 0 = .ok (.iload_n 0, 1) := by decide +kernel
theorem dX12_isDay_1 : decode cX12_isDay 1 = .ok (.ifCond .lt 14, 3) := by decide +kernel
theorem dX12_isDay_15 : decode cX12_isDay 15 = .ok (.iconst 0, 1) := by decide +kernel
theorem dX12_isDay_16 : decode cX12_isDay 16 = .ok (.ireturn, 1) := by decide +kernel
theorem dX12_isDay_4 : decode cX12_isDay 4 = .ok (.iload_n 0, 1) := by decide +kernel
theorem dX12_isDay_5 : decode cX12_isDay 5 = .ok (.sipush 719, 3) := by decide +kernel
theorem dX12_isDay_8 : decode cX12_isDay 8 = .ok (.if_icmp .gt 7, 3) := by decide +kernel
theorem dX12_isDay_11 : decode cX12_isDay 11 = .ok (.iconst 1, 1) := by decide +kernel
theorem dX12_isDay_12 : decode cX12_isDay 12 = .ok (.goto 4, 3) := by decide +kernel
theorem dX12_isMonth_0 : decode cX12_isMonth 0 = .ok (.iload_n 0, 1) := by decide +kernel
theorem dX12_isMonth_1 : decode cX12_isMonth 1 = .ok (.ifCond .lt 13, 3) := by decide +kernel
theorem dX12_isMonth_14 : decode cX12_isMonth 14 = .ok (.iconst 0, 1) := by decide +kernel
theorem dX12_isMonth_15 : decode cX12_isMonth 15 = .ok (.ireturn, 1) := by decide +kernel
theorem dX12_isMonth_4 : decode cX12_isMonth 4 = .ok (.iload_n 0, 1) := by decide +kernel
theorem dX12_isMonth_5 : decode cX12_isMonth 5 = .ok (.bipush 23, 2) := by decide +kernel
theorem dX12_isMonth_7 : decode cX12_isMonth 7 = .ok (.if_icmp .gt 7, 3) := by decide +kernel
theorem dX12_isMonth_10 : decode cX12_isMonth 10 = .ok (.iconst 1, 1) := by decide +kernel
theorem dX12_isMonth_11 : decode cX12_isMonth 11 = .ok (.goto 4, 3) := by decide +kernel
theorem dX2_has_0 : decode cX2_has 0 = .ok (.iload_n 1, 1) := by decide +kernel
theorem dX2_has_1 : decode cX2_has 1 = .ok (.ifCond .lt 21, 3) := by decide +kernel
theorem dX2_has_22 : decode cX2_has 22 = .ok (.iconst 0, 1) := by decide +kernel
theorem dX2_has_23 : decode cX2_has 23 = .ok (.ireturn, 1) := by decide +kernel
theorem dX2_has_4 : decode cX2_has 4 = .ok (.iload_n 1, 1) := by decide +kernel
theorem dX2_has_5 : decode cX2_has 5 = .ok (.aload_n 0, 1) := by decide +kernel
theorem dX2_has_6 : decode cX2_has 6 = .ok (.getfield 42, 3) := by decide +kernel
theorem dX2_has_9 : decode cX2_has 9 = .ok (.if_icmp .ge 13, 3) := by decide +kernel
theorem dX3_has_0 : decode cX3_has 0 = .ok (.iload_n 1, 1) := by decide +kernel
theorem dX3_has_1 : decode cX3_has 1 = .ok (.ifCond .lt 21, 3) := by decide +kernel
theorem dX3_has_22 : decode cX3_has 22 = .ok (.iconst 0, 1) := by decide +kernel
theorem dX3_has_23 : decode cX3_has 23 = .ok (.ireturn, 1) := by decide +kernel
theorem dX3_has_4 : decode cX3_has 4 = .ok (.iload_n 1, 1) := by decide +kernel
theorem dX3_has_5 : decode cX3_has 5 = .ok (.aload_n 0, 1) := by decide +kernel
theorem dX3_has_6 : decode cX3_has 6 = .ok (.getfield 45, 3) := by decide +kernel
theorem dX3_has_9 : decode cX3_has 9 = .ok (.if_icmp .ge 13, 3) := by decide +kernel
theorem dX4_hasPort_0 : decode cX4_hasPort 0 = .ok (.iload_n 1, 1) := by decide +kernel
theorem dX4_hasPort_1 : decode cX4_hasPort 1 = .ok (.ifCond .lt 20, 3) := by decide +kernel
theorem dX4_hasPort_21 : decode cX4_hasPort 21 = .ok (.iconst 0, 1) := by decide +kernel
theorem dX4_hasPort_22 : decode cX4_hasPort 22 = .ok (.ireturn, 1) := by decide +kernel
theorem dX4_hasPort_4 : decode cX4_hasPort 4 = .ok (.iload_n 1, 1) := by decide +kernel
theorem dX4_hasPort_5 : decode cX4_hasPort 5 = .ok (.aload_n 0, 1) := by decide +kernel
theorem dX4_hasPort_6 : decode cX4_hasPort 6 = .ok (.getfield 44, 3) := by decide +kernel
theorem dX4_hasPort_9 : decode cX4_hasPort 9 = .ok (.if_icmp .ge 12, 3) := by decide +kernel
theorem dX8_has_0 : decode cX8_has 0 = .ok (.iload_n 1, 1) := by decide +kernel
theorem dX8_has_1 : decode cX8_has 1 = .ok (.ifCond .lt 22, 3) := by decide +kernel
theorem dX8_has_23 : decode cX8_has 23 = .ok (.iconst 0, 1) := by decide +kernel
theorem dX8_has_24 : decode cX8_has 24 = .ok (.ireturn, 1) := by decide +kernel
theorem dX8_has_4 : decode cX8_has 4 = .ok (.iload_n 1, 1) := by decide +kernel
theorem dX8_has_5 : decode cX8_has 5 = .ok (.aload_n 0, 1) := by decide +kernel
theorem dX8_has_6 : decode cX8_has 6 = .ok (.getfield 36, 3) := by decide +kernel
theorem dX8_has_9 : decode cX8_has 9 = .ok (.if_icmp .ge 14, 3) := by decide +kernel
theorem dX11_hasStation_0 : decode cX11_hasStation 0 = .ok (.iload_n 1, 1) := by decide +kernel
theorem dX11_hasStation_1 : decode cX11_hasStation 1 = .ok (.ifCond .lt 15, 3) := by decide +kernel
theorem dX11_hasStation_16 : decode cX11_hasStation 16 = .ok (.iconst 0, 1) := by decide +kernel
theorem dX11_hasStation_17 : decode cX11_hasStation 17 = .ok (.ireturn, 1) := by decide +kernel
theorem dX11_hasStation_4 : decode cX11_hasStation 4 = .ok (.iload_n 1, 1) := by decide +kernel
theorem dX11_hasStation_5 : decode cX11_hasStation 5 = .ok (.aload_n 0, 1) := by decide +kernel
theorem dX11_hasStation_6 : decode cX11_hasStation 6 = .ok (.getfield 178, 3) := by decide +kernel
theorem dX11_hasStation_9 : decode cX11_hasStation 9 = .ok (.if_icmp .ge 7, 3) := by decide +kernel
theorem dX12_isHolder_0 : decode cX12_isHolder 0 = .ok (.iload_n 1, 1) := by decide +kernel
theorem dX12_isHolder_1 : decode cX12_isHolder 1 = .ok (.ifCond .lt 15, 3) := by decide +kernel
theorem dX12_isHolder_16 : decode cX12_isHolder 16 = .ok (.iconst 0, 1) := by decide +kernel
theorem dX12_isHolder_17 : decode cX12_isHolder 17 = .ok (.ireturn, 1) := by decide +kernel
theorem dX12_isHolder_4 : decode cX12_isHolder 4 = .ok (.iload_n 1, 1) := by decide +kernel
theorem dX12_isHolder_5 : decode cX12_isHolder 5 = .ok (.aload_n 0, 1) := by decide +kernel
theorem dX12_isHolder_6 : decode cX12_isHolder 6 = .ok (.getfield 229, 3) := by decide +kernel
theorem dX12_isHolder_9 : decode cX12_isHolder 9 = .ok (.if_icmp .ge 7, 3) := by decide +kernel
theorem dX12_isStation_0 : decode cX12_isStation 0 = .ok (.iload_n 1, 1) := by decide +kernel
theorem dX12_isStation_1 : decode cX12_isStation 1 = .ok (.ifCond .lt 15, 3) := by decide +kernel
theorem dX12_isStation_16 : decode cX12_isStation 16 = .ok (.iconst 0, 1) := by decide +kernel
theorem dX12_isStation_17 : decode cX12_isStation 17 = .ok (.ireturn, 1) := by decide +kernel
theorem dX12_isStation_4 : decode cX12_isStation 4 = .ok (.iload_n 1, 1) := by decide +kernel
theorem dX12_isStation_5 : decode cX12_isStation 5 = .ok (.aload_n 0, 1) := by decide +kernel
theorem dX12_isStation_6 : decode cX12_isStation 6 = .ok (.getfield 461, 3) := by decide +kernel
theorem dX12_isStation_9 : decode cX12_isStation 9 = .ok (.if_icmp .ge 7, 3) := by decide +kernel
theorem dX11_note_0 : decode cX11_note 0 = .ok (.aload_n 0, 1) := by decide +kernel
theorem dX11_note_1 : decode cX11_note 1 = .ok (.getfield 16, 3) := by decide +kernel
theorem dX11_note_4 : decode cX11_note 4 = .ok (.iload_n 1, 1) := by decide +kernel
set_option maxRecDepth 20000 in
theorem ggX11_note_X2_has : GoodIn wsX11_note wsX2_has := goodIn_r _ [7, 8, 39, 40, 41, 42, 43, 44, 45, 46, 47, 48, 49, 50] (by decide +kernel) (by decide +kernel)
set_option maxRecDepth 20000 in
theorem gX11_note_X2_has : GoodIn wsX11_note (wsV RX11 96 RX2 yX2_has wsX2_has) := goodIn_app (goodIn_of _ (by decide +kernel)) ggX11_note_X2_has
theorem dX11_note_5 : decode cX11_note 5 = .ok (.invokevirtual 96, 3) := by decide +kernel
theorem dX11_note_8 : decode cX11_note 8 = .ok (.ifCond .eq 19, 3) := by decide +kernel
theorem dX11_note_27 : decode cX11_note 27 = .ok (.iconst (-1), 1) := by decide +kernel
theorem dX11_note_28 : decode cX11_note 28 = .ok (.ireturn, 1) := by decide +kernel
theorem dX12_note_0 : decode cX12_note 0 = .ok (.aload_n 0, 1) := by decide +kernel
theorem dX12_note_1 : decode cX12_note 1 = .ok (.iload_n 1, 1) := by decide +kernel
set_option maxRecDepth 20000 in
theorem ggX12_note_X12_isHolder : GoodIn wsX12_note wsX12_isHolder := goodIn_r _ [12, 13, 20, 21, 22, 23, 24, 25, 26, 27, 28, 29, 30, 31, 32, 33, 34, 35, 36, 37, 38, 39, 40, 41, 42, 43, 44, 45, 46, 47, 48, 49, 50, 51, 52, 53, 54, 55, 56, 57, 58, 59, 60, 61, 62, 63, 64, 65, 66, 67, 68, 69, 70, 71, 72, 73, 74, 75, 76, 77, 78, 79, 80, 81, 82, 83, 84, 85, 86, 87, 88, 89, 90, 91, 92, 93, 94, 95, 96, 97, 98, 99, 100, 101, 102, 103, 104, 105, 106, 107, 108, 109, 110, 111, 112, 113, 114, 115] (by decide +kernel) (by decide +kernel)
set_option maxRecDepth 20000 in
theorem gX12_note_X12_isHolder : GoodIn wsX12_note (wsV RX12 239 RX12 yX12_isHolder wsX12_isHolder) := goodIn_app (goodIn_of _ (by decide +kernel)) ggX12_note_X12_isHolder
theorem dX12_note_2 : decode cX12_note 2 = .ok (.invokevirtual 239, 3) := by decide +kernel
theorem dX12_note_5 : decode cX12_note 5 = .ok (.ifCond .eq 29, 3) := by decide +kernel
theorem dX12_note_34 : decode cX12_note 34 = .ok (.iconst (-1), 1) := by decide +kernel
theorem dX12_note_35 : decode cX12_note 35 = .ok (.ireturn, 1) := by decide +kernel
theorem dX11_classOf_0 : decode cX11_classOf 0 = .ok (.aload_n 0, 1) := by decide +kernel
theorem dX11_classOf_1 : decode cX11_classOf 1 = .ok (.getfield 16, 3) := by decide +kernel
theorem dX11_classOf_4 : decode cX11_classOf 4 = .ok (.iload_n 1, 1) := by decide +kernel
set_option maxRecDepth 20000 in
theorem ggX11_classOf_X2_has : GoodIn wsX11_classOf wsX2_has := goodIn_r _ [6, 7, 38, 39, 40, 41, 42, 43, 44, 45, 46, 47, 48, 49] (by decide +kernel) (by decide +kernel)
set_option maxRecDepth 20000 in
theorem gX11_classOf_X2_has : GoodIn wsX11_classOf (wsV RX11 96 RX2 yX2_has wsX2_has) := goodIn_app (goodIn_of _ (by decide +kernel)) ggX11_classOf_X2_has
theorem dX11_classOf_5 : decode cX11_classOf 5 = .ok (.invokevirtual 96, 3) := by decide +kernel
theorem dX11_classOf_8 : decode cX11_classOf 8 = .ok (.ifCond .eq 17, 3) := by decide +kernel
theorem dX11_classOf_25 : decode cX11_classOf 25 = .ok (.iconst (-1), 1) := by decide +kernel
theorem dX11_classOf_26 : decode cX11_classOf 26 = .ok (.ireturn, 1) := by decide +kernel
theorem dX12_classOf_0 : decode cX12_classOf 0 = .ok (.aload_n 0, 1) := by decide +kernel
theorem dX12_classOf_1 : decode cX12_classOf 1 = .ok (.iload_n 1, 1) := by decide +kernel
set_option maxRecDepth 20000 in
theorem ggX12_classOf_X12_isHolder : GoodIn wsX12_classOf wsX12_isHolder := goodIn_r _ [5, 6, 20, 21, 22, 23, 24, 25, 26, 27, 28, 29, 30, 31, 32, 33, 34, 35, 36, 37, 38, 39, 40, 41, 42, 43, 44, 45, 46, 47, 48, 49, 50, 51, 52, 53, 54, 55, 56, 57, 58, 59, 60, 61, 62, 63, 64, 65, 66, 67, 68, 69, 70, 71, 72, 73, 74, 75, 76, 77, 78, 79, 80, 81, 82, 83, 84, 85, 86, 87, 88, 89, 90, 91, 92, 93, 94, 95, 96, 97, 98, 99, 100, 101, 102, 103, 104, 105, 106, 107, 108, 109, 110, 111, 112, 113, 114, 115] (by decide +kernel) (by decide +kernel)
set_option maxRecDepth 20000 in
theorem gX12_classOf_X12_isHolder : GoodIn wsX12_classOf (wsV RX12 239 RX12 yX12_isHolder wsX12_isHolder) := goodIn_app (goodIn_of _ (by decide +kernel)) ggX12_classOf_X12_isHolder
theorem dX12_classOf_2 : decode cX12_classOf 2 = .ok (.invokevirtual 239, 3) := by decide +kernel
theorem dX12_classOf_5 : decode cX12_classOf 5 = .ok (.ifCond .eq 27, 3) := by decide +kernel
theorem dX12_classOf_32 : decode cX12_classOf 32 = .ok (.iconst (-1), 1) := by decide +kernel
theorem dX12_classOf_33 : decode cX12_classOf 33 = .ok (.ireturn, 1) := by decide +kernel
theorem dX11_units_0 : decode cX11_units 0 = .ok (.aload_n 0, 1) := by decide +kernel
theorem dX11_units_1 : decode cX11_units 1 = .ok (.getfield 16, 3) := by decide +kernel
theorem dX11_units_4 : decode cX11_units 4 = .ok (.iload_n 1, 1) := by decide +kernel
set_option maxRecDepth 20000 in
theorem ggX11_units_X2_has : GoodIn wsX11_units wsX2_has := goodIn_r _ [7, 8, 119, 120, 121, 122, 123, 124, 125, 126, 127, 128, 129, 130] (by decide +kernel) (by decide +kernel)
set_option maxRecDepth 20000 in
theorem gX11_units_X2_has : GoodIn wsX11_units (wsV RX11 96 RX2 yX2_has wsX2_has) := goodIn_app (goodIn_of _ (by decide +kernel)) ggX11_units_X2_has
theorem dX11_units_5 : decode cX11_units 5 = .ok (.invokevirtual 96, 3) := by decide +kernel
theorem dX11_units_8 : decode cX11_units 8 = .ok (.ifCond .eq 17, 3) := by decide +kernel
theorem dX11_units_25 : decode cX11_units 25 = .ok (.iconst (-1), 1) := by decide +kernel
theorem dX11_units_26 : decode cX11_units 26 = .ok (.ireturn, 1) := by decide +kernel
theorem dX12_units_0 : decode cX12_units 0 = .ok (.aload_n 0, 1) := by decide +kernel
theorem dX12_units_1 : decode cX12_units 1 = .ok (.iload_n 1, 1) := by decide +kernel
set_option maxRecDepth 20000 in
theorem ggX12_units_X12_isHolder : GoodIn wsX12_units wsX12_isHolder := goodIn_r _ [5, 6, 70, 71, 72, 73, 74, 75, 76, 77, 78, 79, 80, 81, 82, 83, 84, 85, 86, 87, 88, 89, 90, 91, 92, 93, 94, 95, 96, 97, 98, 99, 100, 101, 102, 103, 104, 105, 106, 107, 108, 109, 110, 111, 112, 113, 114, 115, 116, 117, 118, 119, 120, 121, 122, 123, 124, 125, 126, 127, 128, 129, 130, 131, 132, 133, 134, 135, 136, 137, 138, 139, 140, 141, 142, 143, 144, 145, 146, 147, 148, 149, 150, 151, 152, 153, 154, 155, 156, 157, 158, 159, 160, 161, 162, 163, 164, 165] (by decide +kernel) (by decide +kernel)
set_option maxRecDepth 20000 in
theorem gX12_units_X12_isHolder : GoodIn wsX12_units (wsV RX12 239 RX12 yX12_isHolder wsX12_isHolder) := goodIn_app (goodIn_of _ (by decide +kernel)) ggX12_units_X12_isHolder
theorem dX12_units_2 : decode cX12_units 2 = .ok (.invokevirtual 239, 3) := by decide +kernel
theorem dX12_units_5 : decode cX12_units 5 = .ok (.ifCond .eq 27, 3) := by decide +kernel
theorem dX12_units_32 : decode cX12_units 32 = .ok (.iconst (-1), 1) := by decide +kernel
theorem dX12_units_33 : decode cX12_units 33 = .ok (.ireturn, 1) := by decide +kernel
theorem dX11_issue_0 : decode cX11_issue 0 = .ok (.aload_n 0, 1) := by decide +kernel
theorem dX11_issue_1 : decode cX11_issue 1 = .ok (.getfield 85, 3) := by decide +kernel
theorem dX11_issue_4 : decode cX11_issue 4 = .ok (.bipush 30, 2) := by decide +kernel
theorem dX11_issue_6 : decode cX11_issue 6 = .ok (.idiv, 1) := by decide +kernel
theorem dX11_issue_7 : decode cX11_issue 7 = .ok (.istore_n 3, 1) := by decide +kernel
theorem dX11_issue_8 : decode cX11_issue 8 = .ok (.aload_n 0, 1) := by decide +kernel
theorem dX11_issue_9 : decode cX11_issue 9 = .ok (.getfield 16, 3) := by decide +kernel
theorem dX11_issue_12 : decode cX11_issue 12 = .ok (.iload_n 1, 1) := by decide +kernel
set_option maxRecDepth 20000 in
theorem ggX11_issue_X2_has : GoodIn wsX11_issue wsX2_has := goodIn_r _ [9, 10, 129, 130, 131, 132, 133, 134, 135, 136, 137, 138, 139, 140] (by decide +kernel) (by decide +kernel)
set_option maxRecDepth 20000 in
theorem gX11_issue_X2_has : GoodIn wsX11_issue (wsV RX11 96 RX2 yX2_has wsX2_has) := goodIn_app (goodIn_of _ (by decide +kernel)) ggX11_issue_X2_has
theorem dX11_issue_13 : decode cX11_issue 13 = .ok (.invokevirtual 96, 3) := by decide +kernel
theorem dX11_issue_16 : decode cX11_issue 16 = .ok (.ifCond .eq 22, 3) := by decide +kernel
theorem dX11_issue_38 : decode cX11_issue 38 = .ok (.iconst (-1), 1) := by decide +kernel
theorem dX11_issue_39 : decode cX11_issue 39 = .ok (.ireturn, 1) := by decide +kernel
theorem dX12_issue_0 : decode cX12_issue 0 = .ok (.aload_n 0, 1) := by decide +kernel
theorem dX12_issue_1 : decode cX12_issue 1 = .ok (.iload_n 1, 1) := by decide +kernel
set_option maxRecDepth 20000 in
theorem ggX12_issue_X12_isHolder : GoodIn wsX12_issue wsX12_isHolder := goodIn_r _ [8, 9, 70, 71, 72, 73, 74, 75, 76, 77, 78, 79, 80, 81, 82, 83, 84, 85, 86, 87, 88, 89, 90, 91, 92, 93, 94, 95, 96, 97, 98, 99, 100, 101, 102, 103, 104, 105, 106, 107, 108, 109, 110, 111, 112, 113, 114, 115, 116, 117, 118, 119, 120, 121, 122, 123, 124, 125, 126, 127, 128, 129, 130, 131, 132, 133, 134, 135, 136, 137, 138, 139, 140, 141, 142, 143, 144, 145, 146, 147, 148, 149, 150, 151, 152, 153, 154, 155, 156, 157, 158, 159, 160, 161, 162, 163, 164, 165] (by decide +kernel) (by decide +kernel)
set_option maxRecDepth 20000 in
theorem gX12_issue_X12_isHolder : GoodIn wsX12_issue (wsV RX12 239 RX12 yX12_isHolder wsX12_isHolder) := goodIn_app (goodIn_of _ (by decide +kernel)) ggX12_issue_X12_isHolder
theorem dX12_issue_2 : decode cX12_issue 2 = .ok (.invokevirtual 239, 3) := by decide +kernel
theorem dX12_issue_5 : decode cX12_issue 5 = .ok (.ifCond .eq 48, 3) := by decide +kernel
theorem dX12_issue_53 : decode cX12_issue 53 = .ok (.iconst (-1), 1) := by decide +kernel
theorem dX12_issue_54 : decode cX12_issue 54 = .ok (.ireturn, 1) := by decide +kernel
theorem dX11_pour_0 : decode cX11_pour 0 = .ok (.aload_n 0, 1) := by decide +kernel
theorem dX11_pour_1 : decode cX11_pour 1 = .ok (.iload_n 1, 1) := by decide +kernel
set_option maxRecDepth 20000 in
theorem ggX11_pour_X11_hasStation : GoodIn wsX11_pour wsX11_hasStation := goodIn_r _ [14, 15, 101, 102, 103, 104, 105, 106, 107, 108, 109, 110, 111, 112, 113] (by decide +kernel) (by decide +kernel)
set_option maxRecDepth 20000 in
theorem gX11_pour_X11_hasStation : GoodIn wsX11_pour (wsV RX11 182 RX11 yX11_hasStation wsX11_hasStation) := goodIn_app (goodIn_of _ (by decide +kernel)) ggX11_pour_X11_hasStation
theorem dX11_pour_2 : decode cX11_pour 2 = .ok (.invokevirtual 182, 3) := by decide +kernel
theorem dX11_pour_5 : decode cX11_pour 5 = .ok (.ifCond .eq 24, 3) := by decide +kernel
theorem dX11_pour_29 : decode cX11_pour 29 = .ok (.iconst (-1), 1) := by decide +kernel
theorem dX11_pour_30 : decode cX11_pour 30 = .ok (.ireturn, 1) := by decide +kernel
theorem dX12_pour_0 : decode cX12_pour 0 = .ok (.aload_n 0, 1) := by decide +kernel
theorem dX12_pour_1 : decode cX12_pour 1 = .ok (.iload_n 1, 1) := by decide +kernel
set_option maxRecDepth 20000 in
theorem ggX12_pour_X12_isStation : GoodIn wsX12_pour wsX12_isStation := goodIn_r _ [18, 19, 64, 65, 66, 67, 68, 69, 70, 71, 72, 73, 74, 75, 76, 77, 78, 79, 80, 81, 82, 83, 84, 85, 86, 87, 88, 89, 90, 91, 92, 93, 94, 95, 96, 97, 98, 99, 100, 101, 102, 103, 104, 105, 106, 107, 108, 109, 110, 111, 112, 113, 114, 115, 116, 117, 118, 119, 120, 121, 122, 123, 124, 125, 126, 127, 128, 129, 130, 131, 132, 133, 134, 135, 136, 137, 138, 139, 140, 141, 142, 143, 144, 145, 146, 147, 148, 149, 150, 151, 152, 153, 154, 155, 156, 157, 158, 159] (by decide +kernel) (by decide +kernel)
set_option maxRecDepth 20000 in
theorem gX12_pour_X12_isStation : GoodIn wsX12_pour (wsV RX12 464 RX12 yX12_isStation wsX12_isStation) := goodIn_app (goodIn_of _ (by decide +kernel)) ggX12_pour_X12_isStation
theorem dX12_pour_2 : decode cX12_pour 2 = .ok (.invokevirtual 464, 3) := by decide +kernel
theorem dX12_pour_5 : decode cX12_pour 5 = .ok (.ifCond .eq 32, 3) := by decide +kernel
theorem dX12_pour_37 : decode cX12_pour 37 = .ok (.iconst (-1), 1) := by decide +kernel
theorem dX12_pour_38 : decode cX12_pour 38 = .ok (.ireturn, 1) := by decide +kernel
theorem dX11_handIn_0 : decode cX11_handIn 0 = .ok (.aload_n 0, 1) := by decide +kernel
theorem dX11_handIn_1 : decode cX11_handIn 1 = .ok (.iload_n 1, 1) := by decide +kernel
set_option maxRecDepth 20000 in
theorem ggX11_handIn_X11_hasStation : GoodIn wsX11_handIn wsX11_hasStation := goodIn_r _ [9, 10, 69, 70, 71, 72, 73, 74, 75, 76, 77, 78, 79, 80, 81] (by decide +kernel) (by decide +kernel)
set_option maxRecDepth 20000 in
theorem gX11_handIn_X11_hasStation : GoodIn wsX11_handIn (wsV RX11 182 RX11 yX11_hasStation wsX11_hasStation) := goodIn_app (goodIn_of _ (by decide +kernel)) ggX11_handIn_X11_hasStation
theorem dX11_handIn_2 : decode cX11_handIn 2 = .ok (.invokevirtual 182, 3) := by decide +kernel
theorem dX11_handIn_5 : decode cX11_handIn 5 = .ok (.ifCond .ne 5, 3) := by decide +kernel
theorem dX11_handIn_8 : decode cX11_handIn 8 = .ok (.iconst (-1), 1) := by decide +kernel
theorem dX11_handIn_9 : decode cX11_handIn 9 = .ok (.ireturn, 1) := by decide +kernel
theorem dX12_handIn_0 : decode cX12_handIn 0 = .ok (.aload_n 0, 1) := by decide +kernel
theorem dX12_handIn_1 : decode cX12_handIn 1 = .ok (.iload_n 1, 1) := by decide +kernel
set_option maxRecDepth 20000 in
theorem ggX12_handIn_X12_isStation : GoodIn wsX12_handIn wsX12_isStation := goodIn_r _ [10, 11, 40, 41, 42, 43, 44, 45, 46, 47, 48, 49, 50, 51, 52, 53, 54, 55, 56, 57, 58, 59, 60, 61, 62, 63, 64, 65, 66, 67, 68, 69, 70, 71, 72, 73, 74, 75, 76, 77, 78, 79, 80, 81, 82, 83, 84, 85, 86, 87, 88, 89, 90, 91, 92, 93, 94, 95, 96, 97, 98, 99, 100, 101, 102, 103, 104, 105, 106, 107, 108, 109, 110, 111, 112, 113, 114, 115, 116, 117, 118, 119, 120, 121, 122, 123, 124, 125, 126, 127, 128, 129, 130, 131, 132, 133, 134, 135] (by decide +kernel) (by decide +kernel)
set_option maxRecDepth 20000 in
theorem gX12_handIn_X12_isStation : GoodIn wsX12_handIn (wsV RX12 464 RX12 yX12_isStation wsX12_isStation) := goodIn_app (goodIn_of _ (by decide +kernel)) ggX12_handIn_X12_isStation
theorem dX12_handIn_2 : decode cX12_handIn 2 = .ok (.invokevirtual 464, 3) := by decide +kernel
theorem dX12_handIn_5 : decode cX12_handIn 5 = .ok (.ifCond .ne 5, 3) := by decide +kernel
theorem dX12_handIn_8 : decode cX12_handIn 8 = .ok (.iconst (-1), 1) := by decide +kernel
theorem dX12_handIn_9 : decode cX12_handIn 9 = .ok (.ireturn, 1) := by decide +kernel
theorem dX11_found_0 : decode cX11_found 0 = .ok (.aload_n 0, 1) := by decide +kernel
theorem dX11_found_1 : decode cX11_found 1 = .ok (.getfield 16, 3) := by decide +kernel
theorem dX11_found_4 : decode cX11_found 4 = .ok (.iload_n 1, 1) := by decide +kernel
set_option maxRecDepth 20000 in
theorem ggX11_found_X2_has : GoodIn wsX11_found wsX2_has := goodIn_r _ [7, 8, 50, 51, 52, 53, 54, 55, 56, 57, 58, 59, 60, 61] (by decide +kernel) (by decide +kernel)
set_option maxRecDepth 20000 in
theorem gX11_found_X2_has : GoodIn wsX11_found (wsV RX11 96 RX2 yX2_has wsX2_has) := goodIn_app (goodIn_of _ (by decide +kernel)) ggX11_found_X2_has
theorem dX11_found_5 : decode cX11_found 5 = .ok (.invokevirtual 96, 3) := by decide +kernel
theorem dX11_found_8 : decode cX11_found 8 = .ok (.ifCond .ne 5, 3) := by decide +kernel
theorem dX11_found_11 : decode cX11_found 11 = .ok (.iconst (-1), 1) := by decide +kernel
theorem dX11_found_12 : decode cX11_found 12 = .ok (.ireturn, 1) := by decide +kernel
theorem dX12_found_0 : decode cX12_found 0 = .ok (.aload_n 0, 1) := by decide +kernel
theorem dX12_found_1 : decode cX12_found 1 = .ok (.iload_n 1, 1) := by decide +kernel
set_option maxRecDepth 20000 in
theorem ggX12_found_X12_isHolder : GoodIn wsX12_found wsX12_isHolder := goodIn_r _ [9, 10, 21, 22, 23, 24, 25, 26, 27, 28, 29, 30, 31, 32, 33, 34, 35, 36, 37, 38, 39, 40, 41, 42, 43, 44, 45, 46, 47, 48, 49, 50, 51, 52, 53, 54, 55, 56, 57, 58, 59, 60, 61, 62, 63, 64, 65, 66, 67, 68, 69, 70, 71, 72, 73, 74, 75, 76, 77, 78, 79, 80, 81, 82, 83, 84, 85, 86, 87, 88, 89, 90, 91, 92, 93, 94, 95, 96, 97, 98, 99, 100, 101, 102, 103, 104, 105, 106, 107, 108, 109, 110, 111, 112, 113, 114, 115, 116] (by decide +kernel) (by decide +kernel)
set_option maxRecDepth 20000 in
theorem gX12_found_X12_isHolder : GoodIn wsX12_found (wsV RX12 239 RX12 yX12_isHolder wsX12_isHolder) := goodIn_app (goodIn_of _ (by decide +kernel)) ggX12_found_X12_isHolder
theorem dX12_found_2 : decode cX12_found 2 = .ok (.invokevirtual 239, 3) := by decide +kernel
theorem dX12_found_5 : decode cX12_found 5 = .ok (.ifCond .ne 5, 3) := by decide +kernel
theorem dX12_found_8 : decode cX12_found 8 = .ok (.iconst (-1), 1) := by decide +kernel
theorem dX12_found_9 : decode cX12_found 9 = .ok (.ireturn, 1) := by decide +kernel
theorem dX12_undo_0 : decode cX12_undo 0 = .ok (.iload_n 1, 1) := by decide +kernel
theorem dX12_undo_1 : decode cX12_undo 1 = .ok (.ifCond .lt 20, 3) := by decide +kernel
theorem dX12_undo_21 : decode cX12_undo 21 = .ok (.iconst 0, 1) := by decide +kernel
theorem dX12_undo_22 : decode cX12_undo 22 = .ok (.ireturn, 1) := by decide +kernel
theorem dX12_undo_4 : decode cX12_undo 4 = .ok (.iload_n 1, 1) := by decide +kernel
theorem dX12_undo_5 : decode cX12_undo 5 = .ok (.aload_n 0, 1) := by decide +kernel
theorem dX12_undo_6 : decode cX12_undo 6 = .ok (.getfield 246, 3) := by decide +kernel
theorem dX12_undo_9 : decode cX12_undo 9 = .ok (.if_icmp .ge 12, 3) := by decide +kernel
theorem dX11_want_0 : decode cX11_want 0 = .ok (.aload_n 0, 1) := by decide +kernel
theorem dX11_want_1 : decode cX11_want 1 = .ok (.iload_n 1, 1) := by decide +kernel
set_option maxRecDepth 20000 in
theorem ggX11_want_X11_hasStation : GoodIn wsX11_want wsX11_hasStation := goodIn_r _ [6, 7, 17, 18, 19, 20, 21, 22, 23, 24, 25, 26, 27, 28, 29] (by decide +kernel) (by decide +kernel)
set_option maxRecDepth 20000 in
theorem gX11_want_X11_hasStation : GoodIn wsX11_want (wsV RX11 182 RX11 yX11_hasStation wsX11_hasStation) := goodIn_app (goodIn_of _ (by decide +kernel)) ggX11_want_X11_hasStation
theorem dX11_want_2 : decode cX11_want 2 = .ok (.invokevirtual 182, 3) := by decide +kernel
theorem dX11_want_5 : decode cX11_want 5 = .ok (.ifCond .eq 13, 3) := by decide +kernel
theorem dX11_want_18 : decode cX11_want 18 = .ok (.iconst 0, 1) := by decide +kernel
theorem dX11_want_19 : decode cX11_want 19 = .ok (.ireturn, 1) := by decide +kernel
theorem dX12_want_0 : decode cX12_want 0 = .ok (.aload_n 0, 1) := by decide +kernel
theorem dX12_want_1 : decode cX12_want 1 = .ok (.iload_n 1, 1) := by decide +kernel
set_option maxRecDepth 20000 in
theorem ggX12_want_X12_isStation : GoodIn wsX12_want wsX12_isStation := goodIn_r _ [6, 7, 11, 12, 13, 14, 15, 16, 17, 18, 19, 20, 21, 22, 23, 24, 25, 26, 27, 28, 29, 30, 31, 32, 33, 34, 35, 36, 37, 38, 39, 40, 41, 42, 43, 44, 45, 46, 47, 48, 49, 50, 51, 52, 53, 54, 55, 56, 57, 58, 59, 60, 61, 62, 63, 64, 65, 66, 67, 68, 69, 70, 71, 72, 73, 74, 75, 76, 77, 78, 79, 80, 81, 82, 83, 84, 85, 86, 87, 88, 89, 90, 91, 92, 93, 94, 95, 96, 97, 98, 99, 100, 101, 102, 103, 104, 105, 106] (by decide +kernel) (by decide +kernel)
set_option maxRecDepth 20000 in
theorem gX12_want_X12_isStation : GoodIn wsX12_want (wsV RX12 464 RX12 yX12_isStation wsX12_isStation) := goodIn_app (goodIn_of _ (by decide +kernel)) ggX12_want_X12_isStation
theorem dX12_want_2 : decode cX12_want 2 = .ok (.invokevirtual 464, 3) := by decide +kernel
theorem dX12_want_5 : decode cX12_want 5 = .ok (.ifCond .eq 13, 3) := by decide +kernel
theorem dX12_want_18 : decode cX12_want 18 = .ok (.iconst 0, 1) := by decide +kernel
theorem dX12_want_19 : decode cX12_want 19 = .ok (.ireturn, 1) := by decide +kernel
theorem dX11_road_0 : decode cX11_road 0 = .ok (.aload_n 0, 1) := by decide +kernel
theorem dX11_road_1 : decode cX11_road 1 = .ok (.getfield 61, 3) := by decide +kernel
theorem dX11_road_4 : decode cX11_road 4 = .ok (.iload_n 1, 1) := by decide +kernel
set_option maxRecDepth 20000 in
theorem ggX11_road_X4_hasPort : GoodIn wsX11_road wsX4_hasPort := goodIn_r _ [6, 7, 36, 37, 38, 39, 40, 41, 42, 43, 44, 45, 46, 47, 48] (by decide +kernel) (by decide +kernel)
set_option maxRecDepth 20000 in
theorem gX11_road_X4_hasPort : GoodIn wsX11_road (wsV RX11 303 RX4 yX4_hasPort wsX4_hasPort) := goodIn_app (goodIn_of _ (by decide +kernel)) ggX11_road_X4_hasPort
theorem dX11_road_5 : decode cX11_road 5 = .ok (.invokevirtual 303, 3) := by decide +kernel
theorem dX11_road_8 : decode cX11_road 8 = .ok (.ifCond .eq 22, 3) := by decide +kernel
theorem dX11_road_30 : decode cX11_road 30 = .ok (.iconst 0, 1) := by decide +kernel
theorem dX11_road_31 : decode cX11_road 31 = .ok (.ireturn, 1) := by decide +kernel
theorem dX12_road_0 : decode cX12_road 0 = .ok (.iload_n 1, 1) := by decide +kernel
theorem dX12_road_1 : decode cX12_road 1 = .ok (.ifCond .lt 30, 3) := by decide +kernel
theorem dX12_road_31 : decode cX12_road 31 = .ok (.iconst 0, 1) := by decide +kernel
theorem dX12_road_32 : decode cX12_road 32 = .ok (.ireturn, 1) := by decide +kernel
theorem dX12_road_4 : decode cX12_road 4 = .ok (.iload_n 1, 1) := by decide +kernel
theorem dX12_road_5 : decode cX12_road 5 = .ok (.aload_n 0, 1) := by decide +kernel
theorem dX12_road_6 : decode cX12_road 6 = .ok (.getfield 493, 3) := by decide +kernel
theorem dX12_road_9 : decode cX12_road 9 = .ok (.if_icmp .ge 22, 3) := by decide +kernel
theorem dX11_ask_0 : decode cX11_ask 0 = .ok (.aload_n 0, 1) := by decide +kernel
theorem dX11_ask_1 : decode cX11_ask 1 = .ok (.getfield 16, 3) := by decide +kernel
theorem dX11_ask_4 : decode cX11_ask 4 = .ok (.iload_n 1, 1) := by decide +kernel
set_option maxRecDepth 20000 in
theorem ggX11_ask_X2_has : GoodIn wsX11_ask wsX2_has := goodIn_r _ [12, 13, 160, 161, 162, 163, 164, 165, 166, 167, 168, 169, 170, 171] (by decide +kernel) (by decide +kernel)
set_option maxRecDepth 20000 in
theorem gX11_ask_X2_has : GoodIn wsX11_ask (wsV RX11 96 RX2 yX2_has wsX2_has) := goodIn_app (goodIn_of _ (by decide +kernel)) ggX11_ask_X2_has
theorem dX11_ask_5 : decode cX11_ask 5 = .ok (.invokevirtual 96, 3) := by decide +kernel
theorem dX11_ask_8 : decode cX11_ask 8 = .ok (.ifCond .eq 24, 3) := by decide +kernel
theorem dX11_ask_32 : decode cX11_ask 32 = .ok (.iconst (-1), 1) := by decide +kernel
theorem dX11_ask_33 : decode cX11_ask 33 = .ok (.ireturn, 1) := by decide +kernel
theorem dX12_ask_0 : decode cX12_ask 0 = .ok (.aload_n 0, 1) := by decide +kernel
theorem dX12_ask_1 : decode cX12_ask 1 = .ok (.iload_n 1, 1) := by decide +kernel
set_option maxRecDepth 20000 in
theorem ggX12_ask_X12_isHolder : GoodIn wsX12_ask wsX12_isHolder := goodIn_r _ [16, 17, 78, 79, 80, 81, 82, 83, 84, 85, 86, 87, 88, 89, 90, 91, 92, 93, 94, 95, 96, 97, 98, 99, 100, 101, 102, 103, 104, 105, 106, 107, 108, 109, 110, 111, 112, 113, 114, 115, 116, 117, 118, 119, 120, 121, 122, 123, 124, 125, 126, 127, 128, 129, 130, 131, 132, 133, 134, 135, 136, 137, 138, 139, 140, 141, 142, 143, 144, 145, 146, 147, 148, 149, 150, 151, 152, 153, 154, 155, 156, 157, 158, 159, 160, 161, 162, 163, 164, 165, 166, 167, 168, 169, 170, 171, 172, 173] (by decide +kernel) (by decide +kernel)
set_option maxRecDepth 20000 in
theorem gX12_ask_X12_isHolder : GoodIn wsX12_ask (wsV RX12 239 RX12 yX12_isHolder wsX12_isHolder) := goodIn_app (goodIn_of _ (by decide +kernel)) ggX12_ask_X12_isHolder
theorem dX12_ask_2 : decode cX12_ask 2 = .ok (.invokevirtual 239, 3) := by decide +kernel
theorem dX12_ask_5 : decode cX12_ask 5 = .ok (.ifCond .eq 82, 3) := by decide +kernel
theorem dX12_ask_87 : decode cX12_ask 87 = .ok (.iconst (-1), 1) := by decide +kernel
theorem dX12_ask_88 : decode cX12_ask 88 = .ok (.ireturn, 1) := by decide +kernel
theorem dX11_appeal_0 : decode cX11_appeal 0 = .ok (.aload_n 0, 1) := by decide +kernel
theorem dX11_appeal_1 : decode cX11_appeal 1 = .ok (.getfield 68, 3) := by decide +kernel
theorem dX11_appeal_4 : decode cX11_appeal 4 = .ok (.iload_n 1, 1) := by decide +kernel
set_option maxRecDepth 20000 in
theorem ggX11_appeal_X3_has : GoodIn wsX11_appeal wsX3_has := goodIn_r _ [10, 11, 127, 128, 129, 130, 131, 132, 133, 134, 135, 136, 137, 138, 139, 140, 141, 142, 143] (by decide +kernel) (by decide +kernel)
set_option maxRecDepth 20000 in
theorem gX11_appeal_X3_has : GoodIn wsX11_appeal (wsV RX11 328 RX3 yX3_has wsX3_has) := goodIn_app (goodIn_of _ (by decide +kernel)) ggX11_appeal_X3_has
theorem dX11_appeal_5 : decode cX11_appeal 5 = .ok (.invokevirtual 328, 3) := by decide +kernel
theorem dX11_appeal_8 : decode cX11_appeal 8 = .ok (.ifCond .eq 10, 3) := by decide +kernel
theorem dX11_appeal_18 : decode cX11_appeal 18 = .ok (.iconst (-1), 1) := by decide +kernel
theorem dX11_appeal_19 : decode cX11_appeal 19 = .ok (.ireturn, 1) := by decide +kernel
theorem dX12_appeal_0 : decode cX12_appeal 0 = .ok (.iload_n 1, 1) := by decide +kernel
theorem dX12_appeal_1 : decode cX12_appeal 1 = .ok (.ifCond .lt 20, 3) := by decide +kernel
theorem dX12_appeal_21 : decode cX12_appeal 21 = .ok (.iconst (-1), 1) := by decide +kernel
theorem dX12_appeal_22 : decode cX12_appeal 22 = .ok (.ireturn, 1) := by decide +kernel
theorem dX12_appeal_4 : decode cX12_appeal 4 = .ok (.iload_n 1, 1) := by decide +kernel
theorem dX12_appeal_5 : decode cX12_appeal 5 = .ok (.aload_n 0, 1) := by decide +kernel
theorem dX12_appeal_6 : decode cX12_appeal 6 = .ok (.getfield 505, 3) := by decide +kernel
theorem dX12_appeal_9 : decode cX12_appeal 9 = .ok (.if_icmp .ge 12, 3) := by decide +kernel
theorem dX11_journey_0 : decode cX11_journey 0 = .ok (.aload_n 0, 1) := by decide +kernel
theorem dX11_journey_1 : decode cX11_journey 1 = .ok (.getfield 68, 3) := by decide +kernel
theorem dX11_journey_4 : decode cX11_journey 4 = .ok (.iload_n 1, 1) := by decide +kernel
set_option maxRecDepth 20000 in
theorem ggX11_journey_X3_has : GoodIn wsX11_journey wsX3_has := goodIn_r _ [8, 9, 59, 60, 61, 62, 63, 64, 65, 66, 67, 68, 69, 70, 71, 72, 73, 74, 75] (by decide +kernel) (by decide +kernel)
set_option maxRecDepth 20000 in
theorem gX11_journey_X3_has : GoodIn wsX11_journey (wsV RX11 328 RX3 yX3_has wsX3_has) := goodIn_app (goodIn_of _ (by decide +kernel)) ggX11_journey_X3_has
theorem dX11_journey_5 : decode cX11_journey 5 = .ok (.invokevirtual 328, 3) := by decide +kernel
theorem dX11_journey_8 : decode cX11_journey 8 = .ok (.ifCond .ne 5, 3) := by decide +kernel
theorem dX11_journey_11 : decode cX11_journey 11 = .ok (.iconst (-1), 1) := by decide +kernel
theorem dX11_journey_12 : decode cX11_journey 12 = .ok (.ireturn, 1) := by decide +kernel
theorem dX12_journey_0 : decode cX12_journey 0 = .ok (.iload_n 1, 1) := by decide +kernel
theorem dX12_journey_1 : decode cX12_journey 1 = .ok (.ifCond .lt 11, 3) := by decide +kernel
theorem dX12_journey_12 : decode cX12_journey 12 = .ok (.iconst (-1), 1) := by decide +kernel
theorem dX12_journey_13 : decode cX12_journey 13 = .ok (.ireturn, 1) := by decide +kernel
theorem dX12_journey_4 : decode cX12_journey 4 = .ok (.iload_n 1, 1) := by decide +kernel
theorem dX12_journey_5 : decode cX12_journey 5 = .ok (.aload_n 0, 1) := by decide +kernel
theorem dX12_journey_6 : decode cX12_journey 6 = .ok (.getfield 505, 3) := by decide +kernel
theorem dX12_journey_9 : decode cX12_journey 9 = .ok (.if_icmp .lt 5, 3) := by decide +kernel
theorem z_l0 : (0 : Int32).toInt = 0 := by decide
theorem z_l4 : (4 : Int32).toInt = 4 := by decide
theorem z_l23 : (23 : Int32).toInt = 23 := by decide
theorem z_l719 : (719 : Int32).toInt = 719 := by decide
def zLX : List z_S := [.inr 11, .inr 2, .inl (.int, 30), .inl (.int, 30), .inl (.int, 30), .inl (.int, 30), .inl (.int, 30), .inl (.int, 200), .inl (.int, 200), .inl (.int, 200), .inl (.int, 200), .inl (.int, 200), .inr 9, .inl (.int, 500), .inl (.int, 501), .inl (.int, 501), .inl (.int, 501), .inl (.int, 500), .inl (.int, 24), .inl (.int, 24), .inl (.int, 24), .inr 6, .inl ((.object RX7), 12), .inr 5, .inl (.int, 7), .inl (.int, 64), .inr 0, .inl (.int, 720), .inl (.int, 512), .inl (.int, 512), .inr 8, .inl (.int, 300), .inl (.int, 300), .inl (.int, 300), .inl (.int, 300), .inl (.int, 300), .inl (.int, 300), .inl (.int, 300), .inl (.int, 300), .inl ((.object RX10), 10), .inl (.int, 30), .inr 4, .inl (.int, 4), .inl (.int, 10), .inl ((.array .int), 4), .inl (.int, 10), .inl (.int, 10), .inl (.int, 10), .inl (.int, 10), .inl ((.array .int), 4), .inl (.int, 10), .inl (.int, 10), .inl (.int, 10), .inl (.int, 10), .inl (.int, 4), .inl (.int, 10), .inl (.int, 4), .inl (.int, 10), .inl (.int, 10), .inl (.int, 4), .inr 3, .inl (.int, 60), .inl (.int, 60), .inl (.int, 60), .inl (.int, 60), .inl (.int, 60), .inl (.int, 60), .inl (.int, 60), .inl (.int, 60), .inl (.int, 60), .inl (.int, 12), .inl (.int, 12), .inr 1, .inl (.int, 30), .inl (.int, 30)]
def shX : Nat → Option z_S := fun i => zLX[i]?
def PX (ad : Nat → Nat) : z_P := fun i k => match i with
  | 0 => (([none, none, some (ad 1), some (ad 12), some (ad 21), some (ad 26), some (ad 30), some (ad 39), none, some (ad 40), some (ad 41), some (ad 60), some (ad 72)] : List (Option Nat))[k]?).join
  | 1 => (([some (ad 2), some (ad 3), some (ad 4), some (ad 5), some (ad 6), none, some (ad 7), some (ad 8), some (ad 9), some (ad 10), some (ad 11)] : List (Option Nat))[k]?).join
  | 12 => (([some (ad 13), none, some (ad 14), some (ad 15), some (ad 16), none, none, none, some (ad 17), none, some (ad 18), some (ad 19), some (ad 20)] : List (Option Nat))[k]?).join
  | 21 => (([some (ad 22), some (ad 23)] : List (Option Nat))[k]?).join
  | 23 => (([some (ad 24), some (ad 25)] : List (Option Nat))[k]?).join
  | 26 => (([some (ad 27), some (ad 28), some (ad 29)] : List (Option Nat))[k]?).join
  | 30 => (([some (ad 31), some (ad 32), some (ad 33), some (ad 34), some (ad 35), some (ad 36), some (ad 37), some (ad 38)] : List (Option Nat))[k]?).join
  | 41 => (([some (ad 42), some (ad 43), some (ad 44), some (ad 49), some (ad 54), some (ad 55), some (ad 56), some (ad 57), some (ad 58), some (ad 59)] : List (Option Nat))[k]?).join
  | 44 => (([some (ad 45), some (ad 46), some (ad 47), some (ad 48)] : List (Option Nat))[k]?).join
  | 49 => (([some (ad 50), some (ad 51), some (ad 52), some (ad 53)] : List (Option Nat))[k]?).join
  | 60 => (([some (ad 61), some (ad 62), some (ad 63), some (ad 64), some (ad 65), some (ad 66), some (ad 67), some (ad 68), some (ad 69), none, some (ad 70), some (ad 71)] : List (Option Nat))[k]?).join
  | 72 => (([some (ad 73), some (ad 74)] : List (Option Nat))[k]?).join
  | _ => none
def IX : z_I := fun i k => match i with
  | 0 => if k = 1 then -1 else 0
  | 27 => -1
  | 40 => -1
  | _ => 0
def JX : z_J := fun _ _ => 0
def zLM : List z_S := [.inr 12, .inl (.int, 30), .inl (.int, 30), .inl (.int, 30), .inl (.int, 30), .inl (.int, 30), .inl (.int, 200), .inl (.int, 200), .inl (.int, 200), .inl (.int, 200), .inl (.int, 200), .inl (.int, 12), .inl (.int, 12), .inl (.int, 12), .inl (.int, 12), .inl (.int, 320), .inl (.int, 320), .inl (.int, 320), .inl (.int, 320), .inl (.int, 320), .inl (.int, 320), .inl (.int, 6200), .inl (.int, 6200), .inl (.int, 6200), .inl (.long, 6200), .inl (.byte, 500), .inl (.int, 120), .inl (.int, 120), .inl (.int, 120), .inl (.int, 120), .inl (.long, 7), .inl (.int, 720), .inl (.int, 72000), .inl (.boolean, 100000), .inl (.int, 300), .inl (.int, 300), .inl (.int, 300), .inl (.int, 300), .inl (.int, 300), .inl (.int, 300), .inl (.int, 300), .inl (.int, 300), .inl (.boolean, 300), .inl (.int, 10), .inl (.int, 10), .inl (.int, 300), .inl (.int, 300), .inl (.int, 10), .inl (.int, 300), .inl (.int, 300), .inl (.int, 300), .inl (.int, 30), .inl (.int, 4), .inl (.int, 10), .inl (.int, 40), .inl (.int, 256), .inl (.int, 256), .inl (.int, 16), .inl (.int, 16), .inl (.int, 60), .inl (.int, 60), .inl (.int, 60), .inl (.int, 60), .inl (.int, 60), .inl (.int, 60), .inl (.int, 60), .inl (.int, 60), .inl (.int, 60), .inl (.int, 12), .inl (.int, 30), .inl (.boolean, 30)]
def shM : Nat → Option z_S := fun i => zLM[i]?
def PM (ad : Nat → Nat) : z_P := fun i k => match i with
  | 0 => (([none, none, none, some (ad 1), some (ad 2), some (ad 3), some (ad 4), some (ad 5), some (ad 6), some (ad 7), some (ad 8), some (ad 9), some (ad 10), none, none, none, some (ad 11), some (ad 12), some (ad 13), some (ad 14), some (ad 15), some (ad 16), some (ad 17), some (ad 18), some (ad 19), some (ad 20), some (ad 21), some (ad 22), some (ad 23), some (ad 24), some (ad 25), none, none, none, none, none, none, none, none, none, none, none, none, some (ad 26), some (ad 27), some (ad 28), some (ad 29), none, some (ad 30), some (ad 31), none, none, some (ad 32), some (ad 33), none, none, none, some (ad 34), some (ad 35), some (ad 36), some (ad 37), some (ad 38), some (ad 39), some (ad 40), some (ad 41), some (ad 42), some (ad 43), some (ad 44), some (ad 45), some (ad 46), some (ad 47), some (ad 48), some (ad 49), some (ad 50), some (ad 51), none, some (ad 52), some (ad 53), some (ad 54), some (ad 55), some (ad 56), some (ad 57), some (ad 58), none, some (ad 59), some (ad 60), some (ad 61), some (ad 62), some (ad 63), some (ad 64), some (ad 65), some (ad 66), some (ad 67), some (ad 68), some (ad 69), some (ad 70)] : List (Option Nat))[k]?).join
  | _ => none
def IM : z_I := fun i k => match i with
  | 0 => if k = 32 then -1 else 0
  | _ => 0
def JM : z_J := fun _ _ => 0
set_option maxHeartbeats 4000000 in
set_option maxRecDepth 100000 in
theorem ct_X11_within (l : Launch) (G : z_G) (u : z_U) (a1 : Int32) (a2 : Int32) (a3 : Int32) : z_M l yX11_within wsX11_within { frames := 1, cells := 0, slots := 0, locals := 12 } [.int a1, .int a2, .int a3] G u (fun r u1 => u1 = u ∧ (r = 1 ∧ a2 ≤ a1 ∧ a1 ≤ a3 ∨ r = 0 ∧ ¬ (a2 ≤ a1 ∧ a1 ≤ a3))) 0 0 := by
  intro sz
  refine z_headQ (cc := cX11_within) (maxL := 3) (ret := (some .boolean)) (by decide) rfl (Nat.le_of_ble_eq_true rfl) ?_
  intro p e s m below meth c ls hIn hK hsz hW hl
  obtain ⟨hx, hb, hr, hml, hown, hts, hlocks, hname⟩ := hIn
  subst hsz
  have hown : s.vm.findClass RX11 = some m.cls := hown
  have hA : ∀ q : Nat, s.heap.size ≤ q → z_A u s.heap.size q := fun q h => Or.inr h
  generalize hAe : z_A u s.heap.size = A at *
  have hS : va_S A s.heap s.heap [] := va_S.rf
  have hl : lv_has ls 3 [(0, .int a1), (1, .int a2), (2, .int a3)] := hl
  refine lv_iload_n hx hb dX11_within_0 rfl (lv_at hl 0 rfl) ?_
  refine lv_iload_n hx hb dX11_within_1 rfl (lv_at hl 1 rfl) ?_
  refine lv_icmp_lt (tgt := 14) hx hb dX11_within_2 (by decide) (fun c1 => ?_) (fun c1 => ?_)
  · refine lv_iconst (v := 0) hx hb dX11_within_14 (by decide) ?_
    exact z_zret hx hb hr (by decide) hK hS (Nat.le_of_ble_eq_true rfl) (Nat.le_of_ble_eq_true rfl) hlocks dX11_within_15 u hW (by refine ⟨rfl, Or.inr ⟨rfl, fun q => ?_⟩⟩ <;> simp only [Int32.lt_iff_toInt_lt, Int32.le_iff_toInt_le] at * <;> omega)
  · refine lv_iload_n hx hb dX11_within_5 rfl (lv_at hl 0 rfl) ?_
    refine lv_iload_n hx hb dX11_within_6 rfl (lv_at hl 2 rfl) ?_
    refine lv_icmp_gt (tgt := 14) hx hb dX11_within_7 (by decide) (fun c2 => ?_) (fun c2 => ?_)
    · refine lv_iconst (v := 0) hx hb dX11_within_14 (by decide) ?_
      exact z_zret hx hb hr (by decide) hK hS (Nat.le_of_ble_eq_true rfl) (Nat.le_of_ble_eq_true rfl) hlocks dX11_within_15 u hW (by refine ⟨rfl, Or.inr ⟨rfl, fun q => ?_⟩⟩ <;> simp only [Int32.lt_iff_toInt_lt, Int32.le_iff_toInt_le] at * <;> omega)
    · refine lv_iconst (v := 1) hx hb dX11_within_10 (by decide) ?_
      refine lv_goto (tgt := 15) hx hb dX11_within_11 (by decide) ?_
      exact z_zret hx hb hr (by decide) hK hS (Nat.le_of_ble_eq_true rfl) (Nat.le_of_ble_eq_true rfl) hlocks dX11_within_15 u hW (by refine ⟨rfl, Or.inl ⟨rfl, ?_, ?_⟩⟩ <;> simp only [Int32.lt_iff_toInt_lt, Int32.le_iff_toInt_le] at * <;> omega)
set_option maxHeartbeats 4000000 in
set_option maxRecDepth 100000 in
theorem ct_X12_within (l : Launch) (G : z_G) (u : z_U) (a1 : Int32) (a2 : Int32) (a3 : Int32) : z_M l yX12_within wsX12_within { frames := 1, cells := 0, slots := 0, locals := 12 } [.int a1, .int a2, .int a3] G u (fun r u1 => u1 = u ∧ (r = 1 ∧ a2 ≤ a1 ∧ a1 ≤ a3 ∨ r = 0 ∧ ¬ (a2 ≤ a1 ∧ a1 ≤ a3))) 0 0 := by
  intro sz
  refine z_headQ (cc := cX12_within) (maxL := 3) (ret := (some .boolean)) (by decide) rfl (Nat.le_of_ble_eq_true rfl) ?_
  intro p e s m below meth c ls hIn hK hsz hW hl
  obtain ⟨hx, hb, hr, hml, hown, hts, hlocks, hname⟩ := hIn
  subst hsz
  have hown : s.vm.findClass RX12 = some m.cls := hown
  have hA : ∀ q : Nat, s.heap.size ≤ q → z_A u s.heap.size q := fun q h => Or.inr h
  generalize hAe : z_A u s.heap.size = A at *
  have hS : va_S A s.heap s.heap [] := va_S.rf
  have hl : lv_has ls 3 [(0, .int a1), (1, .int a2), (2, .int a3)] := hl
  refine lv_iload_n hx hb dX12_within_0 rfl (lv_at hl 0 rfl) ?_
  refine lv_iload_n hx hb dX12_within_1 rfl (lv_at hl 1 rfl) ?_
  refine lv_icmp_lt (tgt := 14) hx hb dX12_within_2 (by decide) (fun c1 => ?_) (fun c1 => ?_)
  · refine lv_iconst (v := 0) hx hb dX12_within_14 (by decide) ?_
    exact z_zret hx hb hr (by decide) hK hS (Nat.le_of_ble_eq_true rfl) (Nat.le_of_ble_eq_true rfl) hlocks dX12_within_15 u hW (by refine ⟨rfl, Or.inr ⟨rfl, fun q => ?_⟩⟩ <;> simp only [Int32.lt_iff_toInt_lt, Int32.le_iff_toInt_le] at * <;> omega)
  · refine lv_iload_n hx hb dX12_within_5 rfl (lv_at hl 0 rfl) ?_
    refine lv_iload_n hx hb dX12_within_6 rfl (lv_at hl 2 rfl) ?_
    refine lv_icmp_gt (tgt := 14) hx hb dX12_within_7 (by decide) (fun c2 => ?_) (fun c2 => ?_)
    · refine lv_iconst (v := 0) hx hb dX12_within_14 (by decide) ?_
      exact z_zret hx hb hr (by decide) hK hS (Nat.le_of_ble_eq_true rfl) (Nat.le_of_ble_eq_true rfl) hlocks dX12_within_15 u hW (by refine ⟨rfl, Or.inr ⟨rfl, fun q => ?_⟩⟩ <;> simp only [Int32.lt_iff_toInt_lt, Int32.le_iff_toInt_le] at * <;> omega)
    · refine lv_iconst (v := 1) hx hb dX12_within_10 (by decide) ?_
      refine lv_goto (tgt := 15) hx hb dX12_within_11 (by decide) ?_
      exact z_zret hx hb hr (by decide) hK hS (Nat.le_of_ble_eq_true rfl) (Nat.le_of_ble_eq_true rfl) hlocks dX12_within_15 u hW (by refine ⟨rfl, Or.inl ⟨rfl, ?_, ?_⟩⟩ <;> simp only [Int32.lt_iff_toInt_lt, Int32.le_iff_toInt_le] at * <;> omega)
set_option maxHeartbeats 4000000 in
set_option maxRecDepth 100000 in
theorem ct_X11_isDay (l : Launch) (G : z_G) (u : z_U) (a1 : Int32) : z_M l yX11_isDay wsX11_isDay { frames := 2, cells := 0, slots := 0, locals := 34 } [.int a1] G u (fun r u1 => u1 = u ∧ (r = 1 ∧ 0 ≤ a1 ∧ a1 ≤ 719 ∨ r = 0 ∧ ¬ (0 ≤ a1 ∧ a1 ≤ 719))) 0 0 := by
  intro sz
  refine z_headQ (cc := cX11_isDay) (maxL := 1) (ret := (some .boolean)) (by decide) rfl (Nat.le_of_ble_eq_true rfl) ?_
  intro p e s m below meth c ls hIn hK hsz hW hl
  obtain ⟨hx, hb, hr, hml, hown, hts, hlocks, hname⟩ := hIn
  subst hsz
  have hown : s.vm.findClass RX11 = some m.cls := hown
  have hA : ∀ q : Nat, s.heap.size ≤ q → z_A u s.heap.size q := fun q h => Or.inr h
  generalize hAe : z_A u s.heap.size = A at *
  have hS : va_S A s.heap s.heap [] := va_S.rf
  have hl : lv_has ls 1 [(0, .int a1)] := hl
  refine lv_iload_n hx hb dX11_isDay_0 rfl (lv_at hl 0 rfl) ?_
  refine lv_iconst (v := 0) hx hb dX11_isDay_1 (by decide) ?_
  refine lv_sipush (v := 719) hx hb dX11_isDay_2 (by decide) ?_
  refine z_ci hW hS hA (va_runS (As := [.int a1, .int 0, .int 719]) (rest := []) ⟨hx, hb, hml, hown, hts⟩ (ct_X11_within l G u a1 0 719 _) (va_cwS 3 hts gX11_isDay_X11_within rfl rfl rfl (by decide +kernel) ⟨Nat.le_of_ble_eq_true rfl, Nat.le_of_ble_eq_true rfl⟩) (z_preS hK hW) rfl rfl hl.1 rfl (lv_room (Nat.le_of_ble_eq_true rfl)) dX11_isDay_5 ⟨Nat.le_of_ble_eq_true rfl, Nat.le_of_ble_eq_true rfl⟩) (fun r u1 H locs hp hW hS => ?_)
  obtain ⟨e9, hp⟩ := hp
  rw [e9] at hW
  rcases hp with ⟨rfl, h1, h2⟩ | ⟨rfl, h3⟩
  · exact z_zret hx hb hr (by decide) hK hS (Nat.le_of_ble_eq_true rfl) (Nat.le_of_ble_eq_true rfl) hlocks dX11_isDay_8 u hW (by refine ⟨rfl, Or.inl ⟨rfl, ?_, ?_⟩⟩ <;> simp only [Int32.lt_iff_toInt_lt, Int32.le_iff_toInt_le, z_l0, z_l719] at * <;> omega)
  · exact z_zret hx hb hr (by decide) hK hS (Nat.le_of_ble_eq_true rfl) (Nat.le_of_ble_eq_true rfl) hlocks dX11_isDay_8 u hW (by refine ⟨rfl, Or.inr ⟨rfl, fun q => ?_⟩⟩ <;> simp only [Int32.lt_iff_toInt_lt, Int32.le_iff_toInt_le, z_l0, z_l719] at * <;> omega)
set_option maxHeartbeats 4000000 in
set_option maxRecDepth 100000 in
theorem ct_X11_isMonth (l : Launch) (G : z_G) (u : z_U) (a1 : Int32) : z_M l yX11_isMonth wsX11_isMonth { frames := 2, cells := 0, slots := 0, locals := 34 } [.int a1] G u (fun r u1 => u1 = u ∧ (r = 1 ∧ 0 ≤ a1 ∧ a1 ≤ 23 ∨ r = 0 ∧ ¬ (0 ≤ a1 ∧ a1 ≤ 23))) 0 0 := by
  intro sz
  refine z_headQ (cc := cX11_isMonth) (maxL := 1) (ret := (some .boolean)) (by decide) rfl (Nat.le_of_ble_eq_true rfl) ?_
  intro p e s m below meth c ls hIn hK hsz hW hl
  obtain ⟨hx, hb, hr, hml, hown, hts, hlocks, hname⟩ := hIn
  subst hsz
  have hown : s.vm.findClass RX11 = some m.cls := hown
  have hA : ∀ q : Nat, s.heap.size ≤ q → z_A u s.heap.size q := fun q h => Or.inr h
  generalize hAe : z_A u s.heap.size = A at *
  have hS : va_S A s.heap s.heap [] := va_S.rf
  have hl : lv_has ls 1 [(0, .int a1)] := hl
  refine lv_iload_n hx hb dX11_isMonth_0 rfl (lv_at hl 0 rfl) ?_
  refine lv_iconst (v := 0) hx hb dX11_isMonth_1 (by decide) ?_
  refine lv_bipush (v := 23) hx hb dX11_isMonth_2 (by decide) ?_
  refine z_ci hW hS hA (va_runS (As := [.int a1, .int 0, .int 23]) (rest := []) ⟨hx, hb, hml, hown, hts⟩ (ct_X11_within l G u a1 0 23 _) (va_cwS 3 hts gX11_isMonth_X11_within rfl rfl rfl (by decide +kernel) ⟨Nat.le_of_ble_eq_true rfl, Nat.le_of_ble_eq_true rfl⟩) (z_preS hK hW) rfl rfl hl.1 rfl (lv_room (Nat.le_of_ble_eq_true rfl)) dX11_isMonth_4 ⟨Nat.le_of_ble_eq_true rfl, Nat.le_of_ble_eq_true rfl⟩) (fun r u1 H locs hp hW hS => ?_)
  obtain ⟨e9, hp⟩ := hp
  rw [e9] at hW
  rcases hp with ⟨rfl, h1, h2⟩ | ⟨rfl, h3⟩
  · exact z_zret hx hb hr (by decide) hK hS (Nat.le_of_ble_eq_true rfl) (Nat.le_of_ble_eq_true rfl) hlocks dX11_isMonth_7 u hW (by refine ⟨rfl, Or.inl ⟨rfl, ?_, ?_⟩⟩ <;> simp only [Int32.lt_iff_toInt_lt, Int32.le_iff_toInt_le, z_l0, z_l23] at * <;> omega)
  · exact z_zret hx hb hr (by decide) hK hS (Nat.le_of_ble_eq_true rfl) (Nat.le_of_ble_eq_true rfl) hlocks dX11_isMonth_7 u hW (by refine ⟨rfl, Or.inr ⟨rfl, fun q => ?_⟩⟩ <;> simp only [Int32.lt_iff_toInt_lt, Int32.le_iff_toInt_le, z_l0, z_l23] at * <;> omega)
set_option maxHeartbeats 4000000 in
set_option maxRecDepth 100000 in
theorem ct_X11_isReason (l : Launch) (G : z_G) (u : z_U) (a1 : Int32) : z_M l yX11_isReason wsX11_isReason { frames := 2, cells := 0, slots := 0, locals := 34 } [.int a1] G u (fun r u1 => u1 = u ∧ (r = 1 ∧ 0 ≤ a1 ∧ a1 ≤ 4 ∨ r = 0 ∧ ¬ (0 ≤ a1 ∧ a1 ≤ 4))) 0 0 := by
  intro sz
  refine z_headQ (cc := cX11_isReason) (maxL := 1) (ret := (some .boolean)) (by decide) rfl (Nat.le_of_ble_eq_true rfl) ?_
  intro p e s m below meth c ls hIn hK hsz hW hl
  obtain ⟨hx, hb, hr, hml, hown, hts, hlocks, hname⟩ := hIn
  subst hsz
  have hown : s.vm.findClass RX11 = some m.cls := hown
  have hA : ∀ q : Nat, s.heap.size ≤ q → z_A u s.heap.size q := fun q h => Or.inr h
  generalize hAe : z_A u s.heap.size = A at *
  have hS : va_S A s.heap s.heap [] := va_S.rf
  have hl : lv_has ls 1 [(0, .int a1)] := hl
  refine lv_iload_n hx hb dX11_isReason_0 rfl (lv_at hl 0 rfl) ?_
  refine lv_iconst (v := 0) hx hb dX11_isReason_1 (by decide) ?_
  refine lv_iconst (v := 4) hx hb dX11_isReason_2 (by decide) ?_
  refine z_ci hW hS hA (va_runS (As := [.int a1, .int 0, .int 4]) (rest := []) ⟨hx, hb, hml, hown, hts⟩ (ct_X11_within l G u a1 0 4 _) (va_cwS 3 hts gX11_isReason_X11_within rfl rfl rfl (by decide +kernel) ⟨Nat.le_of_ble_eq_true rfl, Nat.le_of_ble_eq_true rfl⟩) (z_preS hK hW) rfl rfl hl.1 rfl (lv_room (Nat.le_of_ble_eq_true rfl)) dX11_isReason_3 ⟨Nat.le_of_ble_eq_true rfl, Nat.le_of_ble_eq_true rfl⟩) (fun r u1 H locs hp hW hS => ?_)
  obtain ⟨e9, hp⟩ := hp
  rw [e9] at hW
  rcases hp with ⟨rfl, h1, h2⟩ | ⟨rfl, h3⟩
  · exact z_zret hx hb hr (by decide) hK hS (Nat.le_of_ble_eq_true rfl) (Nat.le_of_ble_eq_true rfl) hlocks dX11_isReason_6 u hW (by refine ⟨rfl, Or.inl ⟨rfl, ?_, ?_⟩⟩ <;> simp only [Int32.lt_iff_toInt_lt, Int32.le_iff_toInt_le, z_l0, z_l4] at * <;> omega)
  · exact z_zret hx hb hr (by decide) hK hS (Nat.le_of_ble_eq_true rfl) (Nat.le_of_ble_eq_true rfl) hlocks dX11_isReason_6 u hW (by refine ⟨rfl, Or.inr ⟨rfl, fun q => ?_⟩⟩ <;> simp only [Int32.lt_iff_toInt_lt, Int32.le_iff_toInt_le, z_l0, z_l4] at * <;> omega)
set_option maxHeartbeats 4000000 in
set_option maxRecDepth 100000 in
theorem ct_X12_isDay (l : Launch) (G : z_G) (u : z_U) (a1 : Int32) : z_M l yX12_isDay wsX12_isDay { frames := 1, cells := 0, slots := 0, locals := 12 } [.int a1] G u (fun r u1 => u1 = u ∧ (r = 1 ∧ 0 ≤ a1 ∧ a1 ≤ 719 ∨ r = 0 ∧ ¬ (0 ≤ a1 ∧ a1 ≤ 719))) 0 0 := by
  intro sz
  refine z_headQ (cc := cX12_isDay) (maxL := 1) (ret := (some .boolean)) (by decide) rfl (Nat.le_of_ble_eq_true rfl) ?_
  intro p e s m below meth c ls hIn hK hsz hW hl
  obtain ⟨hx, hb, hr, hml, hown, hts, hlocks, hname⟩ := hIn
  subst hsz
  have hown : s.vm.findClass RX12 = some m.cls := hown
  have hA : ∀ q : Nat, s.heap.size ≤ q → z_A u s.heap.size q := fun q h => Or.inr h
  generalize hAe : z_A u s.heap.size = A at *
  have hS : va_S A s.heap s.heap [] := va_S.rf
  have hl : lv_has ls 1 [(0, .int a1)] := hl
  refine lv_iload_n hx hb dX12_isDay_0 rfl (lv_at hl 0 rfl) ?_
  refine lv_if_lt (tgt := 15) hx hb dX12_isDay_1 (by decide) (fun c1 => ?_) (fun c1 => ?_)
  · refine lv_iconst (v := 0) hx hb dX12_isDay_15 (by decide) ?_
    exact z_zret hx hb hr (by decide) hK hS (Nat.le_of_ble_eq_true rfl) (Nat.le_of_ble_eq_true rfl) hlocks dX12_isDay_16 u hW (by refine ⟨rfl, Or.inr ⟨rfl, fun q => ?_⟩⟩ <;> simp only [Int32.lt_iff_toInt_lt, Int32.le_iff_toInt_le, z_l0, z_l719] at * <;> omega)
  · refine lv_iload_n hx hb dX12_isDay_4 rfl (lv_at hl 0 rfl) ?_
    refine lv_sipush (v := 719) hx hb dX12_isDay_5 (by decide) ?_
    refine lv_icmp_gt (tgt := 15) hx hb dX12_isDay_8 (by decide) (fun c2 => ?_) (fun c2 => ?_)
    · refine lv_iconst (v := 0) hx hb dX12_isDay_15 (by decide) ?_
      exact z_zret hx hb hr (by decide) hK hS (Nat.le_of_ble_eq_true rfl) (Nat.le_of_ble_eq_true rfl) hlocks dX12_isDay_16 u hW (by refine ⟨rfl, Or.inr ⟨rfl, fun q => ?_⟩⟩ <;> simp only [Int32.lt_iff_toInt_lt, Int32.le_iff_toInt_le, z_l0, z_l719] at * <;> omega)
    · refine lv_iconst (v := 1) hx hb dX12_isDay_11 (by decide) ?_
      refine lv_goto (tgt := 16) hx hb dX12_isDay_12 (by decide) ?_
      exact z_zret hx hb hr (by decide) hK hS (Nat.le_of_ble_eq_true rfl) (Nat.le_of_ble_eq_true rfl) hlocks dX12_isDay_16 u hW (by refine ⟨rfl, Or.inl ⟨rfl, ?_, ?_⟩⟩ <;> simp only [Int32.lt_iff_toInt_lt, Int32.le_iff_toInt_le, z_l0, z_l719] at * <;> omega)
set_option maxHeartbeats 4000000 in
set_option maxRecDepth 100000 in
theorem ct_X12_isMonth (l : Launch) (G : z_G) (u : z_U) (a1 : Int32) : z_M l yX12_isMonth wsX12_isMonth { frames := 1, cells := 0, slots := 0, locals := 12 } [.int a1] G u (fun r u1 => u1 = u ∧ (r = 1 ∧ 0 ≤ a1 ∧ a1 ≤ 23 ∨ r = 0 ∧ ¬ (0 ≤ a1 ∧ a1 ≤ 23))) 0 0 := by
  intro sz
  refine z_headQ (cc := cX12_isMonth) (maxL := 1) (ret := (some .boolean)) (by decide) rfl (Nat.le_of_ble_eq_true rfl) ?_
  intro p e s m below meth c ls hIn hK hsz hW hl
  obtain ⟨hx, hb, hr, hml, hown, hts, hlocks, hname⟩ := hIn
  subst hsz
  have hown : s.vm.findClass RX12 = some m.cls := hown
  have hA : ∀ q : Nat, s.heap.size ≤ q → z_A u s.heap.size q := fun q h => Or.inr h
  generalize hAe : z_A u s.heap.size = A at *
  have hS : va_S A s.heap s.heap [] := va_S.rf
  have hl : lv_has ls 1 [(0, .int a1)] := hl
  refine lv_iload_n hx hb dX12_isMonth_0 rfl (lv_at hl 0 rfl) ?_
  refine lv_if_lt (tgt := 14) hx hb dX12_isMonth_1 (by decide) (fun c1 => ?_) (fun c1 => ?_)
  · refine lv_iconst (v := 0) hx hb dX12_isMonth_14 (by decide) ?_
    exact z_zret hx hb hr (by decide) hK hS (Nat.le_of_ble_eq_true rfl) (Nat.le_of_ble_eq_true rfl) hlocks dX12_isMonth_15 u hW (by refine ⟨rfl, Or.inr ⟨rfl, fun q => ?_⟩⟩ <;> simp only [Int32.lt_iff_toInt_lt, Int32.le_iff_toInt_le, z_l0, z_l23] at * <;> omega)
  · refine lv_iload_n hx hb dX12_isMonth_4 rfl (lv_at hl 0 rfl) ?_
    refine lv_bipush (v := 23) hx hb dX12_isMonth_5 (by decide) ?_
    refine lv_icmp_gt (tgt := 14) hx hb dX12_isMonth_7 (by decide) (fun c2 => ?_) (fun c2 => ?_)
    · refine lv_iconst (v := 0) hx hb dX12_isMonth_14 (by decide) ?_
      exact z_zret hx hb hr (by decide) hK hS (Nat.le_of_ble_eq_true rfl) (Nat.le_of_ble_eq_true rfl) hlocks dX12_isMonth_15 u hW (by refine ⟨rfl, Or.inr ⟨rfl, fun q => ?_⟩⟩ <;> simp only [Int32.lt_iff_toInt_lt, Int32.le_iff_toInt_le, z_l0, z_l23] at * <;> omega)
    · refine lv_iconst (v := 1) hx hb dX12_isMonth_10 (by decide) ?_
      refine lv_goto (tgt := 15) hx hb dX12_isMonth_11 (by decide) ?_
      exact z_zret hx hb hr (by decide) hK hS (Nat.le_of_ble_eq_true rfl) (Nat.le_of_ble_eq_true rfl) hlocks dX12_isMonth_15 u hW (by refine ⟨rfl, Or.inl ⟨rfl, ?_, ?_⟩⟩ <;> simp only [Int32.lt_iff_toInt_lt, Int32.le_iff_toInt_le, z_l0, z_l23] at * <;> omega)
theorem zi_X2_has_X2 : ∀ w ∈ wsX20, w ∈ wsX2_has := fun w h => (List.mem_cons_of_mem _ (List.mem_append_right _ h))
set_option maxHeartbeats 4000000 in
set_option maxRecDepth 100000 in
theorem ct_X2_has (l : Launch) (G : z_G) (ad : Nat → Nat) (a1 : Int32) : z_M l yX2_has wsX2_has { frames := 1, cells := 0, slots := 0, locals := 12 } [.ref (ad 1), .int a1] G (shX, ad, IX, JX, PX ad) (fun r u1 => u1 = (shX, ad, IX, JX, PX ad) ∧ r = 0) 0 0 := by
  intro sz
  refine z_headQ (cc := cX2_has) (maxL := 2) (ret := (some .boolean)) (by decide) rfl (Nat.le_of_ble_eq_true rfl) ?_
  intro p e s m below meth c ls hIn hK hsz hW hl
  obtain ⟨hx, hb, hr, hml, hown, hts, hlocks, hname⟩ := hIn
  subst hsz
  have hown : s.vm.findClass RX2 = some m.cls := hown
  have hA : ∀ q : Nat, s.heap.size ≤ q → z_A (shX, ad, IX, JX, PX ad) s.heap.size q := fun q h => Or.inr h
  generalize hAe : z_A (shX, ad, IX, JX, PX ad) s.heap.size = A at *
  have hS : va_S A s.heap s.heap [] := va_S.rf
  have hl : lv_has ls 2 [(0, .ref (ad 1)), (1, .int a1)] := hl
  refine lv_iload_n hx hb dX2_has_0 rfl (lv_at hl 1 rfl) ?_
  refine lv_if_lt (tgt := 22) hx hb dX2_has_1 (by decide) (fun c1 => ?_) (fun c1 => ?_)
  · refine lv_iconst (v := 0) hx hb dX2_has_22 (by decide) ?_
    exact z_zret hx hb hr (by decide) hK hS (Nat.le_of_ble_eq_true rfl) (Nat.le_of_ble_eq_true rfl) hlocks dX2_has_23 (shX, ad, IX, JX, PX ad) hW ⟨rfl, rfl⟩
  · refine lv_iload_n hx hb dX2_has_4 rfl (lv_at hl 1 rfl) ?_
    refine lv_aload_n hx hb dX2_has_5 rfl (lv_at hl 0 rfl) ?_
    refine z_get (T := TX2) (N := 12) (ci := 2) (i := 1) (v := .int 0) hx hb hts zi_X2_has_X2 hown hK hW rfl rfl 5 (by decide) (hts (.fieldLink RX2 42 "PetrolBoard$Holders" "number" "I") (List.mem_of_getElem? (i := 1) rfl)) (fun _ h => h) rfl dX2_has_6 ?_
    refine lv_icmp_ge (tgt := 22) hx hb dX2_has_9 (by decide) (fun c2 => ?_) (fun c2 => False.elim (by simp only [Int32.lt_iff_toInt_lt, Int32.le_iff_toInt_le, ← Int32.toInt_inj, z_l0] at c1 c2; omega))
    refine lv_iconst (v := 0) hx hb dX2_has_22 (by decide) ?_
    exact z_zret hx hb hr (by decide) hK hS (Nat.le_of_ble_eq_true rfl) (Nat.le_of_ble_eq_true rfl) hlocks dX2_has_23 (shX, ad, IX, JX, PX ad) hW ⟨rfl, rfl⟩
theorem zi_X3_has_X3 : ∀ w ∈ wsX30, w ∈ wsX3_has := fun w h => (List.mem_cons_of_mem _ (List.mem_append_right _ h))
set_option maxHeartbeats 4000000 in
set_option maxRecDepth 100000 in
theorem ct_X3_has (l : Launch) (G : z_G) (ad : Nat → Nat) (a1 : Int32) : z_M l yX3_has wsX3_has { frames := 1, cells := 0, slots := 0, locals := 12 } [.ref (ad 60), .int a1] G (shX, ad, IX, JX, PX ad) (fun r u1 => u1 = (shX, ad, IX, JX, PX ad) ∧ r = 0) 0 0 := by
  intro sz
  refine z_headQ (cc := cX3_has) (maxL := 2) (ret := (some .boolean)) (by decide) rfl (Nat.le_of_ble_eq_true rfl) ?_
  intro p e s m below meth c ls hIn hK hsz hW hl
  obtain ⟨hx, hb, hr, hml, hown, hts, hlocks, hname⟩ := hIn
  subst hsz
  have hown : s.vm.findClass RX3 = some m.cls := hown
  have hA : ∀ q : Nat, s.heap.size ≤ q → z_A (shX, ad, IX, JX, PX ad) s.heap.size q := fun q h => Or.inr h
  generalize hAe : z_A (shX, ad, IX, JX, PX ad) s.heap.size = A at *
  have hS : va_S A s.heap s.heap [] := va_S.rf
  have hl : lv_has ls 2 [(0, .ref (ad 60)), (1, .int a1)] := hl
  refine lv_iload_n hx hb dX3_has_0 rfl (lv_at hl 1 rfl) ?_
  refine lv_if_lt (tgt := 22) hx hb dX3_has_1 (by decide) (fun c1 => ?_) (fun c1 => ?_)
  · refine lv_iconst (v := 0) hx hb dX3_has_22 (by decide) ?_
    exact z_zret hx hb hr (by decide) hK hS (Nat.le_of_ble_eq_true rfl) (Nat.le_of_ble_eq_true rfl) hlocks dX3_has_23 (shX, ad, IX, JX, PX ad) hW ⟨rfl, rfl⟩
  · refine lv_iload_n hx hb dX3_has_4 rfl (lv_at hl 1 rfl) ?_
    refine lv_aload_n hx hb dX3_has_5 rfl (lv_at hl 0 rfl) ?_
    refine z_get (T := TX3) (N := 17) (ci := 3) (i := 60) (v := .int 0) hx hb hts zi_X3_has_X3 hown hK hW rfl rfl 9 (by decide) (hts (.fieldLink RX3 45 "PetrolBoard$Journeys" "number" "I") (List.mem_of_getElem? (i := 1) rfl)) (fun _ h => h) rfl dX3_has_6 ?_
    refine lv_icmp_ge (tgt := 22) hx hb dX3_has_9 (by decide) (fun c2 => ?_) (fun c2 => False.elim (by simp only [Int32.lt_iff_toInt_lt, Int32.le_iff_toInt_le, ← Int32.toInt_inj, z_l0] at c1 c2; omega))
    refine lv_iconst (v := 0) hx hb dX3_has_22 (by decide) ?_
    exact z_zret hx hb hr (by decide) hK hS (Nat.le_of_ble_eq_true rfl) (Nat.le_of_ble_eq_true rfl) hlocks dX3_has_23 (shX, ad, IX, JX, PX ad) hW ⟨rfl, rfl⟩
theorem zi_X4_hasPort_X4 : ∀ w ∈ wsX40, w ∈ wsX4_hasPort := fun w h => (List.mem_cons_of_mem _ (List.mem_append_right _ h))
set_option maxHeartbeats 4000000 in
set_option maxRecDepth 100000 in
theorem ct_X4_hasPort (l : Launch) (G : z_G) (ad : Nat → Nat) (a1 : Int32) : z_M l yX4_hasPort wsX4_hasPort { frames := 1, cells := 0, slots := 0, locals := 12 } [.ref (ad 41), .int a1] G (shX, ad, IX, JX, PX ad) (fun r u1 => u1 = (shX, ad, IX, JX, PX ad) ∧ r = 0) 0 0 := by
  intro sz
  refine z_headQ (cc := cX4_hasPort) (maxL := 2) (ret := (some .boolean)) (by decide) rfl (Nat.le_of_ble_eq_true rfl) ?_
  intro p e s m below meth c ls hIn hK hsz hW hl
  obtain ⟨hx, hb, hr, hml, hown, hts, hlocks, hname⟩ := hIn
  subst hsz
  have hown : s.vm.findClass RX4 = some m.cls := hown
  have hA : ∀ q : Nat, s.heap.size ≤ q → z_A (shX, ad, IX, JX, PX ad) s.heap.size q := fun q h => Or.inr h
  generalize hAe : z_A (shX, ad, IX, JX, PX ad) s.heap.size = A at *
  have hS : va_S A s.heap s.heap [] := va_S.rf
  have hl : lv_has ls 2 [(0, .ref (ad 41)), (1, .int a1)] := hl
  refine lv_iload_n hx hb dX4_hasPort_0 rfl (lv_at hl 1 rfl) ?_
  refine lv_if_lt (tgt := 21) hx hb dX4_hasPort_1 (by decide) (fun c1 => ?_) (fun c1 => ?_)
  · refine lv_iconst (v := 0) hx hb dX4_hasPort_21 (by decide) ?_
    exact z_zret hx hb hr (by decide) hK hS (Nat.le_of_ble_eq_true rfl) (Nat.le_of_ble_eq_true rfl) hlocks dX4_hasPort_22 (shX, ad, IX, JX, PX ad) hW ⟨rfl, rfl⟩
  · refine lv_iload_n hx hb dX4_hasPort_4 rfl (lv_at hl 1 rfl) ?_
    refine lv_aload_n hx hb dX4_hasPort_5 rfl (lv_at hl 0 rfl) ?_
    refine z_get (T := TX4) (N := 13) (ci := 4) (i := 41) (v := .int 0) hx hb hts zi_X4_hasPort_X4 hown hK hW rfl rfl 10 (by decide) (hts (.fieldLink RX4 44 "PetrolBoard$Loads" "ports" "I") (List.mem_of_getElem? (i := 1) rfl)) (fun _ h => h) rfl dX4_hasPort_6 ?_
    refine lv_icmp_ge (tgt := 21) hx hb dX4_hasPort_9 (by decide) (fun c2 => ?_) (fun c2 => False.elim (by simp only [Int32.lt_iff_toInt_lt, Int32.le_iff_toInt_le, ← Int32.toInt_inj, z_l0] at c1 c2; omega))
    refine lv_iconst (v := 0) hx hb dX4_hasPort_21 (by decide) ?_
    exact z_zret hx hb hr (by decide) hK hS (Nat.le_of_ble_eq_true rfl) (Nat.le_of_ble_eq_true rfl) hlocks dX4_hasPort_22 (shX, ad, IX, JX, PX ad) hW ⟨rfl, rfl⟩
theorem zi_X8_has_X8 : ∀ w ∈ wsX80, w ∈ wsX8_has := fun w h => (List.mem_cons_of_mem _ (List.mem_append_right _ h))
set_option maxHeartbeats 4000000 in
set_option maxRecDepth 100000 in
theorem ct_X8_has (l : Launch) (G : z_G) (ad : Nat → Nat) (a1 : Int32) : z_M l yX8_has wsX8_has { frames := 1, cells := 0, slots := 0, locals := 12 } [.ref (ad 30), .int a1] G (shX, ad, IX, JX, PX ad) (fun r u1 => u1 = (shX, ad, IX, JX, PX ad) ∧ r = 0) 0 0 := by
  intro sz
  refine z_headQ (cc := cX8_has) (maxL := 2) (ret := (some .boolean)) (by decide) rfl (Nat.le_of_ble_eq_true rfl) ?_
  intro p e s m below meth c ls hIn hK hsz hW hl
  obtain ⟨hx, hb, hr, hml, hown, hts, hlocks, hname⟩ := hIn
  subst hsz
  have hown : s.vm.findClass RX8 = some m.cls := hown
  have hA : ∀ q : Nat, s.heap.size ≤ q → z_A (shX, ad, IX, JX, PX ad) s.heap.size q := fun q h => Or.inr h
  generalize hAe : z_A (shX, ad, IX, JX, PX ad) s.heap.size = A at *
  have hS : va_S A s.heap s.heap [] := va_S.rf
  have hl : lv_has ls 2 [(0, .ref (ad 30)), (1, .int a1)] := hl
  refine lv_iload_n hx hb dX8_has_0 rfl (lv_at hl 1 rfl) ?_
  refine lv_if_lt (tgt := 23) hx hb dX8_has_1 (by decide) (fun c1 => ?_) (fun c1 => ?_)
  · refine lv_iconst (v := 0) hx hb dX8_has_23 (by decide) ?_
    exact z_zret hx hb hr (by decide) hK hS (Nat.le_of_ble_eq_true rfl) (Nat.le_of_ble_eq_true rfl) hlocks dX8_has_24 (shX, ad, IX, JX, PX ad) hW ⟨rfl, rfl⟩
  · refine lv_iload_n hx hb dX8_has_4 rfl (lv_at hl 1 rfl) ?_
    refine lv_aload_n hx hb dX8_has_5 rfl (lv_at hl 0 rfl) ?_
    refine z_get (T := TX8) (N := 9) (ci := 8) (i := 30) (v := .int 0) hx hb hts zi_X8_has_X8 hown hK hW rfl rfl 8 (by decide) (hts (.fieldLink RX8 36 "PetrolBoard$Pours" "number" "I") (List.mem_of_getElem? (i := 1) rfl)) (fun _ h => h) rfl dX8_has_6 ?_
    refine lv_icmp_ge (tgt := 23) hx hb dX8_has_9 (by decide) (fun c2 => ?_) (fun c2 => False.elim (by simp only [Int32.lt_iff_toInt_lt, Int32.le_iff_toInt_le, ← Int32.toInt_inj, z_l0] at c1 c2; omega))
    refine lv_iconst (v := 0) hx hb dX8_has_23 (by decide) ?_
    exact z_zret hx hb hr (by decide) hK hS (Nat.le_of_ble_eq_true rfl) (Nat.le_of_ble_eq_true rfl) hlocks dX8_has_24 (shX, ad, IX, JX, PX ad) hW ⟨rfl, rfl⟩
theorem zi_X11_hasStation_X11 : ∀ w ∈ wsX110, w ∈ wsX11_hasStation := fun w h => (List.mem_cons_of_mem _ (List.mem_append_right _ h))
set_option maxHeartbeats 4000000 in
set_option maxRecDepth 100000 in
theorem ct_X11_hasStation (l : Launch) (G : z_G) (ad : Nat → Nat) (a1 : Int32) : z_M l yX11_hasStation wsX11_hasStation { frames := 1, cells := 0, slots := 0, locals := 12 } [.ref (ad 0), .int a1] G (shX, ad, IX, JX, PX ad) (fun r u1 => u1 = (shX, ad, IX, JX, PX ad) ∧ r = 0) 0 0 := by
  intro sz
  refine z_headQ (cc := cX11_hasStation) (maxL := 2) (ret := (some .boolean)) (by decide) rfl (Nat.le_of_ble_eq_true rfl) ?_
  intro p e s m below meth c ls hIn hK hsz hW hl
  obtain ⟨hx, hb, hr, hml, hown, hts, hlocks, hname⟩ := hIn
  subst hsz
  have hown : s.vm.findClass RX11 = some m.cls := hown
  have hA : ∀ q : Nat, s.heap.size ≤ q → z_A (shX, ad, IX, JX, PX ad) s.heap.size q := fun q h => Or.inr h
  generalize hAe : z_A (shX, ad, IX, JX, PX ad) s.heap.size = A at *
  have hS : va_S A s.heap s.heap [] := va_S.rf
  have hl : lv_has ls 2 [(0, .ref (ad 0)), (1, .int a1)] := hl
  refine lv_iload_n hx hb dX11_hasStation_0 rfl (lv_at hl 1 rfl) ?_
  refine lv_if_lt (tgt := 16) hx hb dX11_hasStation_1 (by decide) (fun c1 => ?_) (fun c1 => ?_)
  · refine lv_iconst (v := 0) hx hb dX11_hasStation_16 (by decide) ?_
    exact z_zret hx hb hr (by decide) hK hS (Nat.le_of_ble_eq_true rfl) (Nat.le_of_ble_eq_true rfl) hlocks dX11_hasStation_17 (shX, ad, IX, JX, PX ad) hW ⟨rfl, rfl⟩
  · refine lv_iload_n hx hb dX11_hasStation_4 rfl (lv_at hl 1 rfl) ?_
    refine lv_aload_n hx hb dX11_hasStation_5 rfl (lv_at hl 0 rfl) ?_
    refine z_get (T := TX11) (N := 13) (ci := 11) (i := 0) (v := .int 0) hx hb hts zi_X11_hasStation_X11 hown hK hW rfl rfl 8 (by decide) (hts (.fieldLink RX11 178 "PetrolBoard" "stationNumber" "I") (List.mem_of_getElem? (i := 1) rfl)) (fun _ h => h) rfl dX11_hasStation_6 ?_
    refine lv_icmp_ge (tgt := 16) hx hb dX11_hasStation_9 (by decide) (fun c2 => ?_) (fun c2 => False.elim (by simp only [Int32.lt_iff_toInt_lt, Int32.le_iff_toInt_le, ← Int32.toInt_inj, z_l0] at c1 c2; omega))
    refine lv_iconst (v := 0) hx hb dX11_hasStation_16 (by decide) ?_
    exact z_zret hx hb hr (by decide) hK hS (Nat.le_of_ble_eq_true rfl) (Nat.le_of_ble_eq_true rfl) hlocks dX11_hasStation_17 (shX, ad, IX, JX, PX ad) hW ⟨rfl, rfl⟩
theorem zi_X12_isHolder_X12 : ∀ w ∈ wsX120, w ∈ wsX12_isHolder := fun w h => (List.mem_cons_of_mem _ (List.mem_append_right _ h))
set_option maxHeartbeats 4000000 in
set_option maxRecDepth 100000 in
theorem ct_X12_isHolder (l : Launch) (G : z_G) (ad : Nat → Nat) (a1 : Int32) : z_M l yX12_isHolder wsX12_isHolder { frames := 1, cells := 0, slots := 0, locals := 12 } [.ref (ad 0), .int a1] G (shM, ad, IM, JM, PM ad) (fun r u1 => u1 = (shM, ad, IM, JM, PM ad) ∧ r = 0) 0 0 := by
  intro sz
  refine z_headQ (cc := cX12_isHolder) (maxL := 2) (ret := (some .boolean)) (by decide) rfl (Nat.le_of_ble_eq_true rfl) ?_
  intro p e s m below meth c ls hIn hK hsz hW hl
  obtain ⟨hx, hb, hr, hml, hown, hts, hlocks, hname⟩ := hIn
  subst hsz
  have hown : s.vm.findClass RX12 = some m.cls := hown
  have hA : ∀ q : Nat, s.heap.size ≤ q → z_A (shM, ad, IM, JM, PM ad) s.heap.size q := fun q h => Or.inr h
  generalize hAe : z_A (shM, ad, IM, JM, PM ad) s.heap.size = A at *
  have hS : va_S A s.heap s.heap [] := va_S.rf
  have hl : lv_has ls 2 [(0, .ref (ad 0)), (1, .int a1)] := hl
  refine lv_iload_n hx hb dX12_isHolder_0 rfl (lv_at hl 1 rfl) ?_
  refine lv_if_lt (tgt := 16) hx hb dX12_isHolder_1 (by decide) (fun c1 => ?_) (fun c1 => ?_)
  · refine lv_iconst (v := 0) hx hb dX12_isHolder_16 (by decide) ?_
    exact z_zret hx hb hr (by decide) hK hS (Nat.le_of_ble_eq_true rfl) (Nat.le_of_ble_eq_true rfl) hlocks dX12_isHolder_17 (shM, ad, IM, JM, PM ad) hW ⟨rfl, rfl⟩
  · refine lv_iload_n hx hb dX12_isHolder_4 rfl (lv_at hl 1 rfl) ?_
    refine lv_aload_n hx hb dX12_isHolder_5 rfl (lv_at hl 0 rfl) ?_
    refine z_get (T := TX12) (N := 96) (ci := 12) (i := 0) (v := .int 0) hx hb hts zi_X12_isHolder_X12 hown hK hW rfl rfl 1 (by decide) (hts (.fieldLink RX12 229 "PetrolBoardModel" "holders" "I") (List.mem_of_getElem? (i := 1) rfl)) (fun _ h => h) rfl dX12_isHolder_6 ?_
    refine lv_icmp_ge (tgt := 16) hx hb dX12_isHolder_9 (by decide) (fun c2 => ?_) (fun c2 => False.elim (by simp only [Int32.lt_iff_toInt_lt, Int32.le_iff_toInt_le, ← Int32.toInt_inj, z_l0] at c1 c2; omega))
    refine lv_iconst (v := 0) hx hb dX12_isHolder_16 (by decide) ?_
    exact z_zret hx hb hr (by decide) hK hS (Nat.le_of_ble_eq_true rfl) (Nat.le_of_ble_eq_true rfl) hlocks dX12_isHolder_17 (shM, ad, IM, JM, PM ad) hW ⟨rfl, rfl⟩
theorem zi_X12_isStation_X12 : ∀ w ∈ wsX120, w ∈ wsX12_isStation := fun w h => (List.mem_cons_of_mem _ (List.mem_append_right _ h))
set_option maxHeartbeats 4000000 in
set_option maxRecDepth 100000 in
theorem ct_X12_isStation (l : Launch) (G : z_G) (ad : Nat → Nat) (a1 : Int32) : z_M l yX12_isStation wsX12_isStation { frames := 1, cells := 0, slots := 0, locals := 12 } [.ref (ad 0), .int a1] G (shM, ad, IM, JM, PM ad) (fun r u1 => u1 = (shM, ad, IM, JM, PM ad) ∧ r = 0) 0 0 := by
  intro sz
  refine z_headQ (cc := cX12_isStation) (maxL := 2) (ret := (some .boolean)) (by decide) rfl (Nat.le_of_ble_eq_true rfl) ?_
  intro p e s m below meth c ls hIn hK hsz hW hl
  obtain ⟨hx, hb, hr, hml, hown, hts, hlocks, hname⟩ := hIn
  subst hsz
  have hown : s.vm.findClass RX12 = some m.cls := hown
  have hA : ∀ q : Nat, s.heap.size ≤ q → z_A (shM, ad, IM, JM, PM ad) s.heap.size q := fun q h => Or.inr h
  generalize hAe : z_A (shM, ad, IM, JM, PM ad) s.heap.size = A at *
  have hS : va_S A s.heap s.heap [] := va_S.rf
  have hl : lv_has ls 2 [(0, .ref (ad 0)), (1, .int a1)] := hl
  refine lv_iload_n hx hb dX12_isStation_0 rfl (lv_at hl 1 rfl) ?_
  refine lv_if_lt (tgt := 16) hx hb dX12_isStation_1 (by decide) (fun c1 => ?_) (fun c1 => ?_)
  · refine lv_iconst (v := 0) hx hb dX12_isStation_16 (by decide) ?_
    exact z_zret hx hb hr (by decide) hK hS (Nat.le_of_ble_eq_true rfl) (Nat.le_of_ble_eq_true rfl) hlocks dX12_isStation_17 (shM, ad, IM, JM, PM ad) hW ⟨rfl, rfl⟩
  · refine lv_iload_n hx hb dX12_isStation_4 rfl (lv_at hl 1 rfl) ?_
    refine lv_aload_n hx hb dX12_isStation_5 rfl (lv_at hl 0 rfl) ?_
    refine z_get (T := TX12) (N := 96) (ci := 12) (i := 0) (v := .int 0) hx hb hts zi_X12_isStation_X12 hown hK hW rfl rfl 54 (by decide) (hts (.fieldLink RX12 461 "PetrolBoardModel" "stations" "I") (List.mem_of_getElem? (i := 1) rfl)) (fun _ h => h) rfl dX12_isStation_6 ?_
    refine lv_icmp_ge (tgt := 16) hx hb dX12_isStation_9 (by decide) (fun c2 => ?_) (fun c2 => False.elim (by simp only [Int32.lt_iff_toInt_lt, Int32.le_iff_toInt_le, ← Int32.toInt_inj, z_l0] at c1 c2; omega))
    refine lv_iconst (v := 0) hx hb dX12_isStation_16 (by decide) ?_
    exact z_zret hx hb hr (by decide) hK hS (Nat.le_of_ble_eq_true rfl) (Nat.le_of_ble_eq_true rfl) hlocks dX12_isStation_17 (shM, ad, IM, JM, PM ad) hW ⟨rfl, rfl⟩
theorem zi_X11_note_X11 : ∀ w ∈ wsX110, w ∈ wsX11_note := fun w h => (List.mem_cons_of_mem _ (List.mem_append_left _ (List.mem_append_right _ h)))
set_option maxHeartbeats 4000000 in
set_option maxRecDepth 100000 in
theorem ct_X11_note (l : Launch) (G : z_G) (ad : Nat → Nat) (a1 : Int32) (a2 : Int32) (a3 : Int32) : z_M l yX11_note wsX11_note { frames := 3, cells := 0, slots := 0, locals := 54 } [.ref (ad 0), .int a1, .int a2, .int a3] G (shX, ad, IX, JX, PX ad) (fun r u1 => r = (-1)) 0 0 := by
  intro sz
  refine z_headQ (cc := cX11_note) (maxL := 4) (ret := (some .int)) (by decide) rfl (Nat.le_of_ble_eq_true rfl) ?_
  intro p e s m below meth c ls hIn hK hsz hW hl
  obtain ⟨hx, hb, hr, hml, hown, hts, hlocks, hname⟩ := hIn
  subst hsz
  have hown : s.vm.findClass RX11 = some m.cls := hown
  have hA : ∀ q : Nat, s.heap.size ≤ q → z_A (shX, ad, IX, JX, PX ad) s.heap.size q := fun q h => Or.inr h
  generalize hAe : z_A (shX, ad, IX, JX, PX ad) s.heap.size = A at *
  have hS : va_S A s.heap s.heap [] := va_S.rf
  have hl : lv_has ls 4 [(0, .ref (ad 0)), (1, .int a1), (2, .int a2), (3, .int a3)] := hl
  refine lv_aload_n hx hb dX11_note_0 rfl (lv_at hl 0 rfl) ?_
  refine z_get (T := TX11) (N := 13) (ci := 11) (i := 0) (v := .ref (ad 1)) hx hb hts zi_X11_note_X11 hown hK hW rfl rfl 2 (by decide) (hts (.fieldLink RX11 16 "PetrolBoard" "holders" "LPetrolBoard$Holders;") (List.mem_of_getElem? (i := 1) rfl)) (fun _ h => h) rfl dX11_note_1 ?_
  refine lv_iload_n hx hb dX11_note_4 rfl (lv_at hl 1 rfl) ?_
  refine z_ci hW hS hA (va_runV (As := [.int a1]) (rest := []) ⟨hx, hb, hml, hown, hts⟩ (ct_X2_has l G ad a1 _) (cwV 1 hts gX11_note_X2_has rfl rfl rfl (by decide +kernel) ⟨Nat.le_of_ble_eq_true rfl, Nat.le_of_ble_eq_true rfl⟩) (z_preV hK hW rfl rfl) rfl rfl hl.1 rfl (lv_room (Nat.le_of_ble_eq_true rfl)) dX11_note_5 ⟨Nat.le_of_ble_eq_true rfl, Nat.le_of_ble_eq_true rfl⟩) (fun r u1 H locs hp hW hS => ?_)
  obtain ⟨e9, rfl⟩ := hp
  rw [e9] at hW
  refine lv_if_eq (tgt := 27) hx hb dX11_note_8 (by decide) (fun c1 => ?_) (fun c1 => absurd (by decide) c1)
  refine lv_iconst (v := (-1)) hx hb dX11_note_27 (by decide) ?_
  exact z_iret hx hb hr hK hS (Nat.le_of_ble_eq_true rfl) (Nat.le_of_ble_eq_true rfl) hlocks dX11_note_28 (shX, ad, IX, JX, PX ad) hW rfl
set_option maxHeartbeats 4000000 in
set_option maxRecDepth 100000 in
theorem ct_X12_note (l : Launch) (G : z_G) (ad : Nat → Nat) (a1 : Int32) (a2 : Int32) (a3 : Int32) : z_M l yX12_note wsX12_note { frames := 2, cells := 0, slots := 0, locals := 34 } [.ref (ad 0), .int a1, .int a2, .int a3] G (shM, ad, IM, JM, PM ad) (fun r u1 => r = (-1)) 0 0 := by
  intro sz
  refine z_headQ (cc := cX12_note) (maxL := 4) (ret := (some .int)) (by decide) rfl (Nat.le_of_ble_eq_true rfl) ?_
  intro p e s m below meth c ls hIn hK hsz hW hl
  obtain ⟨hx, hb, hr, hml, hown, hts, hlocks, hname⟩ := hIn
  subst hsz
  have hown : s.vm.findClass RX12 = some m.cls := hown
  have hA : ∀ q : Nat, s.heap.size ≤ q → z_A (shM, ad, IM, JM, PM ad) s.heap.size q := fun q h => Or.inr h
  generalize hAe : z_A (shM, ad, IM, JM, PM ad) s.heap.size = A at *
  have hS : va_S A s.heap s.heap [] := va_S.rf
  have hl : lv_has ls 4 [(0, .ref (ad 0)), (1, .int a1), (2, .int a2), (3, .int a3)] := hl
  refine lv_aload_n hx hb dX12_note_0 rfl (lv_at hl 0 rfl) ?_
  refine lv_iload_n hx hb dX12_note_1 rfl (lv_at hl 1 rfl) ?_
  refine z_ci hW hS hA (va_runV (As := [.int a1]) (rest := []) ⟨hx, hb, hml, hown, hts⟩ (ct_X12_isHolder l G ad a1 _) (cwV 1 hts gX12_note_X12_isHolder rfl rfl rfl (by decide +kernel) ⟨Nat.le_of_ble_eq_true rfl, Nat.le_of_ble_eq_true rfl⟩) (z_preV hK hW rfl rfl) rfl rfl hl.1 rfl (lv_room (Nat.le_of_ble_eq_true rfl)) dX12_note_2 ⟨Nat.le_of_ble_eq_true rfl, Nat.le_of_ble_eq_true rfl⟩) (fun r u1 H locs hp hW hS => ?_)
  obtain ⟨e9, rfl⟩ := hp
  rw [e9] at hW
  refine lv_if_eq (tgt := 34) hx hb dX12_note_5 (by decide) (fun c1 => ?_) (fun c1 => absurd (by decide) c1)
  refine lv_iconst (v := (-1)) hx hb dX12_note_34 (by decide) ?_
  exact z_iret hx hb hr hK hS (Nat.le_of_ble_eq_true rfl) (Nat.le_of_ble_eq_true rfl) hlocks dX12_note_35 (shM, ad, IM, JM, PM ad) hW rfl
theorem zi_X11_classOf_X11 : ∀ w ∈ wsX110, w ∈ wsX11_classOf := fun w h => (List.mem_cons_of_mem _ (List.mem_append_left _ (List.mem_append_right _ h)))
set_option maxHeartbeats 4000000 in
set_option maxRecDepth 100000 in
theorem ct_X11_classOf (l : Launch) (G : z_G) (ad : Nat → Nat) (a1 : Int32) (a2 : Int32) (a3 : Int32) : z_M l yX11_classOf wsX11_classOf { frames := 3, cells := 0, slots := 0, locals := 54 } [.ref (ad 0), .int a1, .int a2, .int a3] G (shX, ad, IX, JX, PX ad) (fun r u1 => r = (-1)) 0 0 := by
  intro sz
  refine z_headQ (cc := cX11_classOf) (maxL := 4) (ret := (some .int)) (by decide) rfl (Nat.le_of_ble_eq_true rfl) ?_
  intro p e s m below meth c ls hIn hK hsz hW hl
  obtain ⟨hx, hb, hr, hml, hown, hts, hlocks, hname⟩ := hIn
  subst hsz
  have hown : s.vm.findClass RX11 = some m.cls := hown
  have hA : ∀ q : Nat, s.heap.size ≤ q → z_A (shX, ad, IX, JX, PX ad) s.heap.size q := fun q h => Or.inr h
  generalize hAe : z_A (shX, ad, IX, JX, PX ad) s.heap.size = A at *
  have hS : va_S A s.heap s.heap [] := va_S.rf
  have hl : lv_has ls 4 [(0, .ref (ad 0)), (1, .int a1), (2, .int a2), (3, .int a3)] := hl
  refine lv_aload_n hx hb dX11_classOf_0 rfl (lv_at hl 0 rfl) ?_
  refine z_get (T := TX11) (N := 13) (ci := 11) (i := 0) (v := .ref (ad 1)) hx hb hts zi_X11_classOf_X11 hown hK hW rfl rfl 2 (by decide) (hts (.fieldLink RX11 16 "PetrolBoard" "holders" "LPetrolBoard$Holders;") (List.mem_of_getElem? (i := 1) rfl)) (fun _ h => h) rfl dX11_classOf_1 ?_
  refine lv_iload_n hx hb dX11_classOf_4 rfl (lv_at hl 1 rfl) ?_
  refine z_ci hW hS hA (va_runV (As := [.int a1]) (rest := []) ⟨hx, hb, hml, hown, hts⟩ (ct_X2_has l G ad a1 _) (cwV 1 hts gX11_classOf_X2_has rfl rfl rfl (by decide +kernel) ⟨Nat.le_of_ble_eq_true rfl, Nat.le_of_ble_eq_true rfl⟩) (z_preV hK hW rfl rfl) rfl rfl hl.1 rfl (lv_room (Nat.le_of_ble_eq_true rfl)) dX11_classOf_5 ⟨Nat.le_of_ble_eq_true rfl, Nat.le_of_ble_eq_true rfl⟩) (fun r u1 H locs hp hW hS => ?_)
  obtain ⟨e9, rfl⟩ := hp
  rw [e9] at hW
  refine lv_if_eq (tgt := 25) hx hb dX11_classOf_8 (by decide) (fun c1 => ?_) (fun c1 => absurd (by decide) c1)
  refine lv_iconst (v := (-1)) hx hb dX11_classOf_25 (by decide) ?_
  exact z_iret hx hb hr hK hS (Nat.le_of_ble_eq_true rfl) (Nat.le_of_ble_eq_true rfl) hlocks dX11_classOf_26 (shX, ad, IX, JX, PX ad) hW rfl
set_option maxHeartbeats 4000000 in
set_option maxRecDepth 100000 in
theorem ct_X12_classOf (l : Launch) (G : z_G) (ad : Nat → Nat) (a1 : Int32) (a2 : Int32) (a3 : Int32) : z_M l yX12_classOf wsX12_classOf { frames := 2, cells := 0, slots := 0, locals := 33 } [.ref (ad 0), .int a1, .int a2, .int a3] G (shM, ad, IM, JM, PM ad) (fun r u1 => r = (-1)) 0 0 := by
  intro sz
  refine z_headQ (cc := cX12_classOf) (maxL := 4) (ret := (some .int)) (by decide) rfl (Nat.le_of_ble_eq_true rfl) ?_
  intro p e s m below meth c ls hIn hK hsz hW hl
  obtain ⟨hx, hb, hr, hml, hown, hts, hlocks, hname⟩ := hIn
  subst hsz
  have hown : s.vm.findClass RX12 = some m.cls := hown
  have hA : ∀ q : Nat, s.heap.size ≤ q → z_A (shM, ad, IM, JM, PM ad) s.heap.size q := fun q h => Or.inr h
  generalize hAe : z_A (shM, ad, IM, JM, PM ad) s.heap.size = A at *
  have hS : va_S A s.heap s.heap [] := va_S.rf
  have hl : lv_has ls 4 [(0, .ref (ad 0)), (1, .int a1), (2, .int a2), (3, .int a3)] := hl
  refine lv_aload_n hx hb dX12_classOf_0 rfl (lv_at hl 0 rfl) ?_
  refine lv_iload_n hx hb dX12_classOf_1 rfl (lv_at hl 1 rfl) ?_
  refine z_ci hW hS hA (va_runV (As := [.int a1]) (rest := []) ⟨hx, hb, hml, hown, hts⟩ (ct_X12_isHolder l G ad a1 _) (cwV 1 hts gX12_classOf_X12_isHolder rfl rfl rfl (by decide +kernel) ⟨Nat.le_of_ble_eq_true rfl, Nat.le_of_ble_eq_true rfl⟩) (z_preV hK hW rfl rfl) rfl rfl hl.1 rfl (lv_room (Nat.le_of_ble_eq_true rfl)) dX12_classOf_2 ⟨Nat.le_of_ble_eq_true rfl, Nat.le_of_ble_eq_true rfl⟩) (fun r u1 H locs hp hW hS => ?_)
  obtain ⟨e9, rfl⟩ := hp
  rw [e9] at hW
  refine lv_if_eq (tgt := 32) hx hb dX12_classOf_5 (by decide) (fun c1 => ?_) (fun c1 => absurd (by decide) c1)
  refine lv_iconst (v := (-1)) hx hb dX12_classOf_32 (by decide) ?_
  exact z_iret hx hb hr hK hS (Nat.le_of_ble_eq_true rfl) (Nat.le_of_ble_eq_true rfl) hlocks dX12_classOf_33 (shM, ad, IM, JM, PM ad) hW rfl
theorem zi_X11_units_X11 : ∀ w ∈ wsX110, w ∈ wsX11_units := fun w h => (List.mem_cons_of_mem _ (List.mem_append_left _ (List.mem_append_left _ (List.mem_append_left _ (List.mem_append_left _ (List.mem_append_right _ h))))))
set_option maxHeartbeats 4000000 in
set_option maxRecDepth 100000 in
theorem ct_X11_units (l : Launch) (G : z_G) (ad : Nat → Nat) (a1 : Int32) (a2 : Int32) (a3 : Int32) : z_M l yX11_units wsX11_units { frames := 3, cells := 0, slots := 0, locals := 54 } [.ref (ad 0), .int a1, .int a2, .int a3] G (shX, ad, IX, JX, PX ad) (fun r u1 => r = (-1)) 0 0 := by
  intro sz
  refine z_headQ (cc := cX11_units) (maxL := 4) (ret := (some .int)) (by decide) rfl (Nat.le_of_ble_eq_true rfl) ?_
  intro p e s m below meth c ls hIn hK hsz hW hl
  obtain ⟨hx, hb, hr, hml, hown, hts, hlocks, hname⟩ := hIn
  subst hsz
  have hown : s.vm.findClass RX11 = some m.cls := hown
  have hA : ∀ q : Nat, s.heap.size ≤ q → z_A (shX, ad, IX, JX, PX ad) s.heap.size q := fun q h => Or.inr h
  generalize hAe : z_A (shX, ad, IX, JX, PX ad) s.heap.size = A at *
  have hS : va_S A s.heap s.heap [] := va_S.rf
  have hl : lv_has ls 4 [(0, .ref (ad 0)), (1, .int a1), (2, .int a2), (3, .int a3)] := hl
  refine lv_aload_n hx hb dX11_units_0 rfl (lv_at hl 0 rfl) ?_
  refine z_get (T := TX11) (N := 13) (ci := 11) (i := 0) (v := .ref (ad 1)) hx hb hts zi_X11_units_X11 hown hK hW rfl rfl 2 (by decide) (hts (.fieldLink RX11 16 "PetrolBoard" "holders" "LPetrolBoard$Holders;") (List.mem_of_getElem? (i := 1) rfl)) (fun _ h => h) rfl dX11_units_1 ?_
  refine lv_iload_n hx hb dX11_units_4 rfl (lv_at hl 1 rfl) ?_
  refine z_ci hW hS hA (va_runV (As := [.int a1]) (rest := []) ⟨hx, hb, hml, hown, hts⟩ (ct_X2_has l G ad a1 _) (cwV 1 hts gX11_units_X2_has rfl rfl rfl (by decide +kernel) ⟨Nat.le_of_ble_eq_true rfl, Nat.le_of_ble_eq_true rfl⟩) (z_preV hK hW rfl rfl) rfl rfl hl.1 rfl (lv_room (Nat.le_of_ble_eq_true rfl)) dX11_units_5 ⟨Nat.le_of_ble_eq_true rfl, Nat.le_of_ble_eq_true rfl⟩) (fun r u1 H locs hp hW hS => ?_)
  obtain ⟨e9, rfl⟩ := hp
  rw [e9] at hW
  refine lv_if_eq (tgt := 25) hx hb dX11_units_8 (by decide) (fun c1 => ?_) (fun c1 => absurd (by decide) c1)
  refine lv_iconst (v := (-1)) hx hb dX11_units_25 (by decide) ?_
  exact z_iret hx hb hr hK hS (Nat.le_of_ble_eq_true rfl) (Nat.le_of_ble_eq_true rfl) hlocks dX11_units_26 (shX, ad, IX, JX, PX ad) hW rfl
set_option maxHeartbeats 4000000 in
set_option maxRecDepth 100000 in
theorem ct_X12_units (l : Launch) (G : z_G) (ad : Nat → Nat) (a1 : Int32) (a2 : Int32) (a3 : Int32) : z_M l yX12_units wsX12_units { frames := 2, cells := 0, slots := 0, locals := 33 } [.ref (ad 0), .int a1, .int a2, .int a3] G (shM, ad, IM, JM, PM ad) (fun r u1 => r = (-1)) 0 0 := by
  intro sz
  refine z_headQ (cc := cX12_units) (maxL := 4) (ret := (some .int)) (by decide) rfl (Nat.le_of_ble_eq_true rfl) ?_
  intro p e s m below meth c ls hIn hK hsz hW hl
  obtain ⟨hx, hb, hr, hml, hown, hts, hlocks, hname⟩ := hIn
  subst hsz
  have hown : s.vm.findClass RX12 = some m.cls := hown
  have hA : ∀ q : Nat, s.heap.size ≤ q → z_A (shM, ad, IM, JM, PM ad) s.heap.size q := fun q h => Or.inr h
  generalize hAe : z_A (shM, ad, IM, JM, PM ad) s.heap.size = A at *
  have hS : va_S A s.heap s.heap [] := va_S.rf
  have hl : lv_has ls 4 [(0, .ref (ad 0)), (1, .int a1), (2, .int a2), (3, .int a3)] := hl
  refine lv_aload_n hx hb dX12_units_0 rfl (lv_at hl 0 rfl) ?_
  refine lv_iload_n hx hb dX12_units_1 rfl (lv_at hl 1 rfl) ?_
  refine z_ci hW hS hA (va_runV (As := [.int a1]) (rest := []) ⟨hx, hb, hml, hown, hts⟩ (ct_X12_isHolder l G ad a1 _) (cwV 1 hts gX12_units_X12_isHolder rfl rfl rfl (by decide +kernel) ⟨Nat.le_of_ble_eq_true rfl, Nat.le_of_ble_eq_true rfl⟩) (z_preV hK hW rfl rfl) rfl rfl hl.1 rfl (lv_room (Nat.le_of_ble_eq_true rfl)) dX12_units_2 ⟨Nat.le_of_ble_eq_true rfl, Nat.le_of_ble_eq_true rfl⟩) (fun r u1 H locs hp hW hS => ?_)
  obtain ⟨e9, rfl⟩ := hp
  rw [e9] at hW
  refine lv_if_eq (tgt := 32) hx hb dX12_units_5 (by decide) (fun c1 => ?_) (fun c1 => absurd (by decide) c1)
  refine lv_iconst (v := (-1)) hx hb dX12_units_32 (by decide) ?_
  exact z_iret hx hb hr hK hS (Nat.le_of_ble_eq_true rfl) (Nat.le_of_ble_eq_true rfl) hlocks dX12_units_33 (shM, ad, IM, JM, PM ad) hW rfl
theorem zi_X11_issue_X11 : ∀ w ∈ wsX110, w ∈ wsX11_issue := fun w h => (List.mem_cons_of_mem _ (List.mem_append_left _ (List.mem_append_left _ (List.mem_append_left _ (List.mem_append_left _ (List.mem_append_left _ (List.mem_append_right _ h)))))))
set_option maxHeartbeats 4000000 in
set_option maxRecDepth 100000 in
theorem ct_X11_issue (l : Launch) (G : z_G) (ad : Nat → Nat) (a1 : Int32) (a2 : Int32) : z_M l yX11_issue wsX11_issue { frames := 3, cells := 0, slots := 0, locals := 54 } [.ref (ad 0), .int a1, .int a2] G (shX, ad, IX, JX, PX ad) (fun r u1 => r = (-1)) 0 0 := by
  intro sz
  refine z_headQ (cc := cX11_issue) (maxL := 4) (ret := (some .int)) (by decide) rfl (Nat.le_of_ble_eq_true rfl) ?_
  intro p e s m below meth c ls hIn hK hsz hW hl
  obtain ⟨hx, hb, hr, hml, hown, hts, hlocks, hname⟩ := hIn
  subst hsz
  have hown : s.vm.findClass RX11 = some m.cls := hown
  have hA : ∀ q : Nat, s.heap.size ≤ q → z_A (shX, ad, IX, JX, PX ad) s.heap.size q := fun q h => Or.inr h
  generalize hAe : z_A (shX, ad, IX, JX, PX ad) s.heap.size = A at *
  have hS : va_S A s.heap s.heap [] := va_S.rf
  have hl : lv_has ls 4 [(0, .ref (ad 0)), (1, .int a1), (2, .int a2)] := hl
  refine lv_aload_n hx hb dX11_issue_0 rfl (lv_at hl 0 rfl) ?_
  refine z_get (T := TX11) (N := 13) (ci := 11) (i := 0) (v := .int 0) hx hb hts zi_X11_issue_X11 hown hK hW rfl rfl 0 (by decide) (hts (.fieldLink RX11 85 "PetrolBoard" "today" "I") (List.mem_of_getElem? (i := 1) rfl)) (fun _ h => h) rfl dX11_issue_1 ?_
  refine lv_bipush (v := 30) hx hb dX11_issue_4 (by decide) ?_
  refine lv_idiv hx hb dX11_issue_6 (by decide) ?_
  refine z_topi (v := 0) (by decide) ?_
  refine lv_istore_n (lv' := [(3, .int 0), (0, .ref (ad 0)), (1, .int a1), (2, .int a2)]) hx hb dX11_issue_7 rfl hl (by decide) rfl (fun ls hl => ?_)
  refine lv_aload_n hx hb dX11_issue_8 rfl (lv_at hl 1 rfl) ?_
  refine z_get (T := TX11) (N := 13) (ci := 11) (i := 0) (v := .ref (ad 1)) hx hb hts zi_X11_issue_X11 hown hK hW rfl rfl 2 (by decide) (hts (.fieldLink RX11 16 "PetrolBoard" "holders" "LPetrolBoard$Holders;") (List.mem_of_getElem? (i := 2) rfl)) (fun _ h => h) rfl dX11_issue_9 ?_
  refine lv_iload_n hx hb dX11_issue_12 rfl (lv_at hl 2 rfl) ?_
  refine z_ci hW hS hA (va_runV (As := [.int a1]) (rest := []) ⟨hx, hb, hml, hown, hts⟩ (ct_X2_has l G ad a1 _) (cwV 1 hts gX11_issue_X2_has rfl rfl rfl (by decide +kernel) ⟨Nat.le_of_ble_eq_true rfl, Nat.le_of_ble_eq_true rfl⟩) (z_preV hK hW rfl rfl) rfl rfl hl.1 rfl (lv_room (Nat.le_of_ble_eq_true rfl)) dX11_issue_13 ⟨Nat.le_of_ble_eq_true rfl, Nat.le_of_ble_eq_true rfl⟩) (fun r u1 H locs hp hW hS => ?_)
  obtain ⟨e9, rfl⟩ := hp
  rw [e9] at hW
  refine lv_if_eq (tgt := 38) hx hb dX11_issue_16 (by decide) (fun c1 => ?_) (fun c1 => absurd (by decide) c1)
  refine lv_iconst (v := (-1)) hx hb dX11_issue_38 (by decide) ?_
  exact z_iret hx hb hr hK hS (Nat.le_of_ble_eq_true rfl) (Nat.le_of_ble_eq_true rfl) hlocks dX11_issue_39 (shX, ad, IX, JX, PX ad) hW rfl
set_option maxHeartbeats 4000000 in
set_option maxRecDepth 100000 in
theorem ct_X12_issue (l : Launch) (G : z_G) (ad : Nat → Nat) (a1 : Int32) (a2 : Int32) : z_M l yX12_issue wsX12_issue { frames := 2, cells := 0, slots := 0, locals := 33 } [.ref (ad 0), .int a1, .int a2] G (shM, ad, IM, JM, PM ad) (fun r u1 => r = (-1)) 0 0 := by
  intro sz
  refine z_headQ (cc := cX12_issue) (maxL := 4) (ret := (some .int)) (by decide) rfl (Nat.le_of_ble_eq_true rfl) ?_
  intro p e s m below meth c ls hIn hK hsz hW hl
  obtain ⟨hx, hb, hr, hml, hown, hts, hlocks, hname⟩ := hIn
  subst hsz
  have hown : s.vm.findClass RX12 = some m.cls := hown
  have hA : ∀ q : Nat, s.heap.size ≤ q → z_A (shM, ad, IM, JM, PM ad) s.heap.size q := fun q h => Or.inr h
  generalize hAe : z_A (shM, ad, IM, JM, PM ad) s.heap.size = A at *
  have hS : va_S A s.heap s.heap [] := va_S.rf
  have hl : lv_has ls 4 [(0, .ref (ad 0)), (1, .int a1), (2, .int a2)] := hl
  refine lv_aload_n hx hb dX12_issue_0 rfl (lv_at hl 0 rfl) ?_
  refine lv_iload_n hx hb dX12_issue_1 rfl (lv_at hl 1 rfl) ?_
  refine z_ci hW hS hA (va_runV (As := [.int a1]) (rest := []) ⟨hx, hb, hml, hown, hts⟩ (ct_X12_isHolder l G ad a1 _) (cwV 1 hts gX12_issue_X12_isHolder rfl rfl rfl (by decide +kernel) ⟨Nat.le_of_ble_eq_true rfl, Nat.le_of_ble_eq_true rfl⟩) (z_preV hK hW rfl rfl) rfl rfl hl.1 rfl (lv_room (Nat.le_of_ble_eq_true rfl)) dX12_issue_2 ⟨Nat.le_of_ble_eq_true rfl, Nat.le_of_ble_eq_true rfl⟩) (fun r u1 H locs hp hW hS => ?_)
  obtain ⟨e9, rfl⟩ := hp
  rw [e9] at hW
  refine lv_if_eq (tgt := 53) hx hb dX12_issue_5 (by decide) (fun c1 => ?_) (fun c1 => absurd (by decide) c1)
  refine lv_iconst (v := (-1)) hx hb dX12_issue_53 (by decide) ?_
  exact z_iret hx hb hr hK hS (Nat.le_of_ble_eq_true rfl) (Nat.le_of_ble_eq_true rfl) hlocks dX12_issue_54 (shM, ad, IM, JM, PM ad) hW rfl
set_option maxHeartbeats 4000000 in
set_option maxRecDepth 100000 in
theorem ct_X11_pour (l : Launch) (G : z_G) (ad : Nat → Nat) (a1 : Int32) (a2 : Int32) (a3 : Int32) : z_M l yX11_pour wsX11_pour { frames := 2, cells := 0, slots := 0, locals := 34 } [.ref (ad 0), .int a1, .int a2, .int a3] G (shX, ad, IX, JX, PX ad) (fun r u1 => r = (-1)) 0 0 := by
  intro sz
  refine z_headQ (cc := cX11_pour) (maxL := 5) (ret := (some .int)) (by decide) rfl (Nat.le_of_ble_eq_true rfl) ?_
  intro p e s m below meth c ls hIn hK hsz hW hl
  obtain ⟨hx, hb, hr, hml, hown, hts, hlocks, hname⟩ := hIn
  subst hsz
  have hown : s.vm.findClass RX11 = some m.cls := hown
  have hA : ∀ q : Nat, s.heap.size ≤ q → z_A (shX, ad, IX, JX, PX ad) s.heap.size q := fun q h => Or.inr h
  generalize hAe : z_A (shX, ad, IX, JX, PX ad) s.heap.size = A at *
  have hS : va_S A s.heap s.heap [] := va_S.rf
  have hl : lv_has ls 5 [(0, .ref (ad 0)), (1, .int a1), (2, .int a2), (3, .int a3)] := hl
  refine lv_aload_n hx hb dX11_pour_0 rfl (lv_at hl 0 rfl) ?_
  refine lv_iload_n hx hb dX11_pour_1 rfl (lv_at hl 1 rfl) ?_
  refine z_ci hW hS hA (va_runV (As := [.int a1]) (rest := []) ⟨hx, hb, hml, hown, hts⟩ (ct_X11_hasStation l G ad a1 _) (cwV 1 hts gX11_pour_X11_hasStation rfl rfl rfl (by decide +kernel) ⟨Nat.le_of_ble_eq_true rfl, Nat.le_of_ble_eq_true rfl⟩) (z_preV hK hW rfl rfl) rfl rfl hl.1 rfl (lv_room (Nat.le_of_ble_eq_true rfl)) dX11_pour_2 ⟨Nat.le_of_ble_eq_true rfl, Nat.le_of_ble_eq_true rfl⟩) (fun r u1 H locs hp hW hS => ?_)
  obtain ⟨e9, rfl⟩ := hp
  rw [e9] at hW
  refine lv_if_eq (tgt := 29) hx hb dX11_pour_5 (by decide) (fun c1 => ?_) (fun c1 => absurd (by decide) c1)
  refine lv_iconst (v := (-1)) hx hb dX11_pour_29 (by decide) ?_
  exact z_iret hx hb hr hK hS (Nat.le_of_ble_eq_true rfl) (Nat.le_of_ble_eq_true rfl) hlocks dX11_pour_30 (shX, ad, IX, JX, PX ad) hW rfl
set_option maxHeartbeats 4000000 in
set_option maxRecDepth 100000 in
theorem ct_X12_pour (l : Launch) (G : z_G) (ad : Nat → Nat) (a1 : Int32) (a2 : Int32) (a3 : Int32) : z_M l yX12_pour wsX12_pour { frames := 2, cells := 0, slots := 0, locals := 34 } [.ref (ad 0), .int a1, .int a2, .int a3] G (shM, ad, IM, JM, PM ad) (fun r u1 => r = (-1)) 0 0 := by
  intro sz
  refine z_headQ (cc := cX12_pour) (maxL := 4) (ret := (some .int)) (by decide) rfl (Nat.le_of_ble_eq_true rfl) ?_
  intro p e s m below meth c ls hIn hK hsz hW hl
  obtain ⟨hx, hb, hr, hml, hown, hts, hlocks, hname⟩ := hIn
  subst hsz
  have hown : s.vm.findClass RX12 = some m.cls := hown
  have hA : ∀ q : Nat, s.heap.size ≤ q → z_A (shM, ad, IM, JM, PM ad) s.heap.size q := fun q h => Or.inr h
  generalize hAe : z_A (shM, ad, IM, JM, PM ad) s.heap.size = A at *
  have hS : va_S A s.heap s.heap [] := va_S.rf
  have hl : lv_has ls 4 [(0, .ref (ad 0)), (1, .int a1), (2, .int a2), (3, .int a3)] := hl
  refine lv_aload_n hx hb dX12_pour_0 rfl (lv_at hl 0 rfl) ?_
  refine lv_iload_n hx hb dX12_pour_1 rfl (lv_at hl 1 rfl) ?_
  refine z_ci hW hS hA (va_runV (As := [.int a1]) (rest := []) ⟨hx, hb, hml, hown, hts⟩ (ct_X12_isStation l G ad a1 _) (cwV 1 hts gX12_pour_X12_isStation rfl rfl rfl (by decide +kernel) ⟨Nat.le_of_ble_eq_true rfl, Nat.le_of_ble_eq_true rfl⟩) (z_preV hK hW rfl rfl) rfl rfl hl.1 rfl (lv_room (Nat.le_of_ble_eq_true rfl)) dX12_pour_2 ⟨Nat.le_of_ble_eq_true rfl, Nat.le_of_ble_eq_true rfl⟩) (fun r u1 H locs hp hW hS => ?_)
  obtain ⟨e9, rfl⟩ := hp
  rw [e9] at hW
  refine lv_if_eq (tgt := 37) hx hb dX12_pour_5 (by decide) (fun c1 => ?_) (fun c1 => absurd (by decide) c1)
  refine lv_iconst (v := (-1)) hx hb dX12_pour_37 (by decide) ?_
  exact z_iret hx hb hr hK hS (Nat.le_of_ble_eq_true rfl) (Nat.le_of_ble_eq_true rfl) hlocks dX12_pour_38 (shM, ad, IM, JM, PM ad) hW rfl
set_option maxHeartbeats 4000000 in
set_option maxRecDepth 100000 in
theorem ct_X11_handIn (l : Launch) (G : z_G) (ad : Nat → Nat) (a1 : Int32) : z_M l yX11_handIn wsX11_handIn { frames := 2, cells := 0, slots := 0, locals := 33 } [.ref (ad 0), .int a1] G (shX, ad, IX, JX, PX ad) (fun r u1 => r = (-1)) 0 0 := by
  intro sz
  refine z_headQ (cc := cX11_handIn) (maxL := 4) (ret := (some .int)) (by decide) rfl (Nat.le_of_ble_eq_true rfl) ?_
  intro p e s m below meth c ls hIn hK hsz hW hl
  obtain ⟨hx, hb, hr, hml, hown, hts, hlocks, hname⟩ := hIn
  subst hsz
  have hown : s.vm.findClass RX11 = some m.cls := hown
  have hA : ∀ q : Nat, s.heap.size ≤ q → z_A (shX, ad, IX, JX, PX ad) s.heap.size q := fun q h => Or.inr h
  generalize hAe : z_A (shX, ad, IX, JX, PX ad) s.heap.size = A at *
  have hS : va_S A s.heap s.heap [] := va_S.rf
  have hl : lv_has ls 4 [(0, .ref (ad 0)), (1, .int a1)] := hl
  refine lv_aload_n hx hb dX11_handIn_0 rfl (lv_at hl 0 rfl) ?_
  refine lv_iload_n hx hb dX11_handIn_1 rfl (lv_at hl 1 rfl) ?_
  refine z_ci hW hS hA (va_runV (As := [.int a1]) (rest := []) ⟨hx, hb, hml, hown, hts⟩ (ct_X11_hasStation l G ad a1 _) (cwV 1 hts gX11_handIn_X11_hasStation rfl rfl rfl (by decide +kernel) ⟨Nat.le_of_ble_eq_true rfl, Nat.le_of_ble_eq_true rfl⟩) (z_preV hK hW rfl rfl) rfl rfl hl.1 rfl (lv_room (Nat.le_of_ble_eq_true rfl)) dX11_handIn_2 ⟨Nat.le_of_ble_eq_true rfl, Nat.le_of_ble_eq_true rfl⟩) (fun r u1 H locs hp hW hS => ?_)
  obtain ⟨e9, rfl⟩ := hp
  rw [e9] at hW
  refine lv_if_ne (tgt := 10) hx hb dX11_handIn_5 (by decide) (fun c1 => absurd c1 (by decide)) (fun c1 => ?_)
  refine lv_iconst (v := (-1)) hx hb dX11_handIn_8 (by decide) ?_
  exact z_iret hx hb hr hK hS (Nat.le_of_ble_eq_true rfl) (Nat.le_of_ble_eq_true rfl) hlocks dX11_handIn_9 (shX, ad, IX, JX, PX ad) hW rfl
set_option maxHeartbeats 4000000 in
set_option maxRecDepth 100000 in
theorem ct_X12_handIn (l : Launch) (G : z_G) (ad : Nat → Nat) (a1 : Int32) : z_M l yX12_handIn wsX12_handIn { frames := 2, cells := 0, slots := 0, locals := 33 } [.ref (ad 0), .int a1] G (shM, ad, IM, JM, PM ad) (fun r u1 => r = (-1)) 0 0 := by
  intro sz
  refine z_headQ (cc := cX12_handIn) (maxL := 4) (ret := (some .int)) (by decide) rfl (Nat.le_of_ble_eq_true rfl) ?_
  intro p e s m below meth c ls hIn hK hsz hW hl
  obtain ⟨hx, hb, hr, hml, hown, hts, hlocks, hname⟩ := hIn
  subst hsz
  have hown : s.vm.findClass RX12 = some m.cls := hown
  have hA : ∀ q : Nat, s.heap.size ≤ q → z_A (shM, ad, IM, JM, PM ad) s.heap.size q := fun q h => Or.inr h
  generalize hAe : z_A (shM, ad, IM, JM, PM ad) s.heap.size = A at *
  have hS : va_S A s.heap s.heap [] := va_S.rf
  have hl : lv_has ls 4 [(0, .ref (ad 0)), (1, .int a1)] := hl
  refine lv_aload_n hx hb dX12_handIn_0 rfl (lv_at hl 0 rfl) ?_
  refine lv_iload_n hx hb dX12_handIn_1 rfl (lv_at hl 1 rfl) ?_
  refine z_ci hW hS hA (va_runV (As := [.int a1]) (rest := []) ⟨hx, hb, hml, hown, hts⟩ (ct_X12_isStation l G ad a1 _) (cwV 1 hts gX12_handIn_X12_isStation rfl rfl rfl (by decide +kernel) ⟨Nat.le_of_ble_eq_true rfl, Nat.le_of_ble_eq_true rfl⟩) (z_preV hK hW rfl rfl) rfl rfl hl.1 rfl (lv_room (Nat.le_of_ble_eq_true rfl)) dX12_handIn_2 ⟨Nat.le_of_ble_eq_true rfl, Nat.le_of_ble_eq_true rfl⟩) (fun r u1 H locs hp hW hS => ?_)
  obtain ⟨e9, rfl⟩ := hp
  rw [e9] at hW
  refine lv_if_ne (tgt := 10) hx hb dX12_handIn_5 (by decide) (fun c1 => absurd c1 (by decide)) (fun c1 => ?_)
  refine lv_iconst (v := (-1)) hx hb dX12_handIn_8 (by decide) ?_
  exact z_iret hx hb hr hK hS (Nat.le_of_ble_eq_true rfl) (Nat.le_of_ble_eq_true rfl) hlocks dX12_handIn_9 (shM, ad, IM, JM, PM ad) hW rfl
theorem zi_X11_found_X11 : ∀ w ∈ wsX110, w ∈ wsX11_found := fun w h => (List.mem_cons_of_mem _ (List.mem_append_left _ (List.mem_append_left _ (List.mem_append_right _ h))))
set_option maxHeartbeats 4000000 in
set_option maxRecDepth 100000 in
theorem ct_X11_found (l : Launch) (G : z_G) (ad : Nat → Nat) (a1 : Int32) : z_M l yX11_found wsX11_found { frames := 2, cells := 0, slots := 0, locals := 33 } [.ref (ad 0), .int a1] G (shX, ad, IX, JX, PX ad) (fun r u1 => r = (-1)) 0 0 := by
  intro sz
  refine z_headQ (cc := cX11_found) (maxL := 2) (ret := (some .int)) (by decide) rfl (Nat.le_of_ble_eq_true rfl) ?_
  intro p e s m below meth c ls hIn hK hsz hW hl
  obtain ⟨hx, hb, hr, hml, hown, hts, hlocks, hname⟩ := hIn
  subst hsz
  have hown : s.vm.findClass RX11 = some m.cls := hown
  have hA : ∀ q : Nat, s.heap.size ≤ q → z_A (shX, ad, IX, JX, PX ad) s.heap.size q := fun q h => Or.inr h
  generalize hAe : z_A (shX, ad, IX, JX, PX ad) s.heap.size = A at *
  have hS : va_S A s.heap s.heap [] := va_S.rf
  have hl : lv_has ls 2 [(0, .ref (ad 0)), (1, .int a1)] := hl
  refine lv_aload_n hx hb dX11_found_0 rfl (lv_at hl 0 rfl) ?_
  refine z_get (T := TX11) (N := 13) (ci := 11) (i := 0) (v := .ref (ad 1)) hx hb hts zi_X11_found_X11 hown hK hW rfl rfl 2 (by decide) (hts (.fieldLink RX11 16 "PetrolBoard" "holders" "LPetrolBoard$Holders;") (List.mem_of_getElem? (i := 1) rfl)) (fun _ h => h) rfl dX11_found_1 ?_
  refine lv_iload_n hx hb dX11_found_4 rfl (lv_at hl 1 rfl) ?_
  refine z_ci hW hS hA (va_runV (As := [.int a1]) (rest := []) ⟨hx, hb, hml, hown, hts⟩ (ct_X2_has l G ad a1 _) (cwV 1 hts gX11_found_X2_has rfl rfl rfl (by decide +kernel) ⟨Nat.le_of_ble_eq_true rfl, Nat.le_of_ble_eq_true rfl⟩) (z_preV hK hW rfl rfl) rfl rfl hl.1 rfl (lv_room (Nat.le_of_ble_eq_true rfl)) dX11_found_5 ⟨Nat.le_of_ble_eq_true rfl, Nat.le_of_ble_eq_true rfl⟩) (fun r u1 H locs hp hW hS => ?_)
  obtain ⟨e9, rfl⟩ := hp
  rw [e9] at hW
  refine lv_if_ne (tgt := 13) hx hb dX11_found_8 (by decide) (fun c1 => absurd c1 (by decide)) (fun c1 => ?_)
  refine lv_iconst (v := (-1)) hx hb dX11_found_11 (by decide) ?_
  exact z_iret hx hb hr hK hS (Nat.le_of_ble_eq_true rfl) (Nat.le_of_ble_eq_true rfl) hlocks dX11_found_12 (shX, ad, IX, JX, PX ad) hW rfl
set_option maxHeartbeats 4000000 in
set_option maxRecDepth 100000 in
theorem ct_X12_found (l : Launch) (G : z_G) (ad : Nat → Nat) (a1 : Int32) : z_M l yX12_found wsX12_found { frames := 2, cells := 0, slots := 0, locals := 33 } [.ref (ad 0), .int a1] G (shM, ad, IM, JM, PM ad) (fun r u1 => r = (-1)) 0 0 := by
  intro sz
  refine z_headQ (cc := cX12_found) (maxL := 4) (ret := (some .int)) (by decide) rfl (Nat.le_of_ble_eq_true rfl) ?_
  intro p e s m below meth c ls hIn hK hsz hW hl
  obtain ⟨hx, hb, hr, hml, hown, hts, hlocks, hname⟩ := hIn
  subst hsz
  have hown : s.vm.findClass RX12 = some m.cls := hown
  have hA : ∀ q : Nat, s.heap.size ≤ q → z_A (shM, ad, IM, JM, PM ad) s.heap.size q := fun q h => Or.inr h
  generalize hAe : z_A (shM, ad, IM, JM, PM ad) s.heap.size = A at *
  have hS : va_S A s.heap s.heap [] := va_S.rf
  have hl : lv_has ls 4 [(0, .ref (ad 0)), (1, .int a1)] := hl
  refine lv_aload_n hx hb dX12_found_0 rfl (lv_at hl 0 rfl) ?_
  refine lv_iload_n hx hb dX12_found_1 rfl (lv_at hl 1 rfl) ?_
  refine z_ci hW hS hA (va_runV (As := [.int a1]) (rest := []) ⟨hx, hb, hml, hown, hts⟩ (ct_X12_isHolder l G ad a1 _) (cwV 1 hts gX12_found_X12_isHolder rfl rfl rfl (by decide +kernel) ⟨Nat.le_of_ble_eq_true rfl, Nat.le_of_ble_eq_true rfl⟩) (z_preV hK hW rfl rfl) rfl rfl hl.1 rfl (lv_room (Nat.le_of_ble_eq_true rfl)) dX12_found_2 ⟨Nat.le_of_ble_eq_true rfl, Nat.le_of_ble_eq_true rfl⟩) (fun r u1 H locs hp hW hS => ?_)
  obtain ⟨e9, rfl⟩ := hp
  rw [e9] at hW
  refine lv_if_ne (tgt := 10) hx hb dX12_found_5 (by decide) (fun c1 => absurd c1 (by decide)) (fun c1 => ?_)
  refine lv_iconst (v := (-1)) hx hb dX12_found_8 (by decide) ?_
  exact z_iret hx hb hr hK hS (Nat.le_of_ble_eq_true rfl) (Nat.le_of_ble_eq_true rfl) hlocks dX12_found_9 (shM, ad, IM, JM, PM ad) hW rfl
theorem zi_X12_undo_X12 : ∀ w ∈ wsX120, w ∈ wsX12_undo := fun w h => (List.mem_cons_of_mem _ (List.mem_append_right _ h))
set_option maxHeartbeats 4000000 in
set_option maxRecDepth 100000 in
theorem ct_X12_undo (l : Launch) (G : z_G) (ad : Nat → Nat) (a1 : Int32) : z_M l yX12_undo wsX12_undo { frames := 1, cells := 0, slots := 0, locals := 12 } [.ref (ad 0), .int a1] G (shM, ad, IM, JM, PM ad) (fun r u1 => r = 0) 0 0 := by
  intro sz
  refine z_headQ (cc := cX12_undo) (maxL := 2) (ret := (some .boolean)) (by decide) rfl (Nat.le_of_ble_eq_true rfl) ?_
  intro p e s m below meth c ls hIn hK hsz hW hl
  obtain ⟨hx, hb, hr, hml, hown, hts, hlocks, hname⟩ := hIn
  subst hsz
  have hown : s.vm.findClass RX12 = some m.cls := hown
  have hA : ∀ q : Nat, s.heap.size ≤ q → z_A (shM, ad, IM, JM, PM ad) s.heap.size q := fun q h => Or.inr h
  generalize hAe : z_A (shM, ad, IM, JM, PM ad) s.heap.size = A at *
  have hS : va_S A s.heap s.heap [] := va_S.rf
  have hl : lv_has ls 2 [(0, .ref (ad 0)), (1, .int a1)] := hl
  refine lv_iload_n hx hb dX12_undo_0 rfl (lv_at hl 1 rfl) ?_
  refine lv_if_lt (tgt := 21) hx hb dX12_undo_1 (by decide) (fun c1 => ?_) (fun c1 => ?_)
  · refine lv_iconst (v := 0) hx hb dX12_undo_21 (by decide) ?_
    exact z_zret hx hb hr (by decide) hK hS (Nat.le_of_ble_eq_true rfl) (Nat.le_of_ble_eq_true rfl) hlocks dX12_undo_22 (shM, ad, IM, JM, PM ad) hW rfl
  · refine lv_iload_n hx hb dX12_undo_4 rfl (lv_at hl 1 rfl) ?_
    refine lv_aload_n hx hb dX12_undo_5 rfl (lv_at hl 0 rfl) ?_
    refine z_get (T := TX12) (N := 96) (ci := 12) (i := 0) (v := .int 0) hx hb hts zi_X12_undo_X12 hown hK hW rfl rfl 2 (by decide) (hts (.fieldLink RX12 246 "PetrolBoardModel" "notes" "I") (List.mem_of_getElem? (i := 1) rfl)) (fun _ h => h) rfl dX12_undo_6 ?_
    refine lv_icmp_ge (tgt := 21) hx hb dX12_undo_9 (by decide) (fun c2 => ?_) (fun c2 => False.elim (by simp only [Int32.lt_iff_toInt_lt, Int32.le_iff_toInt_le, ← Int32.toInt_inj, z_l0] at c1 c2; omega))
    refine lv_iconst (v := 0) hx hb dX12_undo_21 (by decide) ?_
    exact z_zret hx hb hr (by decide) hK hS (Nat.le_of_ble_eq_true rfl) (Nat.le_of_ble_eq_true rfl) hlocks dX12_undo_22 (shM, ad, IM, JM, PM ad) hW rfl
set_option maxHeartbeats 4000000 in
set_option maxRecDepth 100000 in
theorem ct_X11_want (l : Launch) (G : z_G) (ad : Nat → Nat) (a1 : Int32) (a2 : Int32) : z_M l yX11_want wsX11_want { frames := 2, cells := 0, slots := 0, locals := 34 } [.ref (ad 0), .int a1, .int a2] G (shX, ad, IX, JX, PX ad) (fun r u1 => r = 0) 0 0 := by
  intro sz
  refine z_headQ (cc := cX11_want) (maxL := 3) (ret := (some .boolean)) (by decide) rfl (Nat.le_of_ble_eq_true rfl) ?_
  intro p e s m below meth c ls hIn hK hsz hW hl
  obtain ⟨hx, hb, hr, hml, hown, hts, hlocks, hname⟩ := hIn
  subst hsz
  have hown : s.vm.findClass RX11 = some m.cls := hown
  have hA : ∀ q : Nat, s.heap.size ≤ q → z_A (shX, ad, IX, JX, PX ad) s.heap.size q := fun q h => Or.inr h
  generalize hAe : z_A (shX, ad, IX, JX, PX ad) s.heap.size = A at *
  have hS : va_S A s.heap s.heap [] := va_S.rf
  have hl : lv_has ls 3 [(0, .ref (ad 0)), (1, .int a1), (2, .int a2)] := hl
  refine lv_aload_n hx hb dX11_want_0 rfl (lv_at hl 0 rfl) ?_
  refine lv_iload_n hx hb dX11_want_1 rfl (lv_at hl 1 rfl) ?_
  refine z_ci hW hS hA (va_runV (As := [.int a1]) (rest := []) ⟨hx, hb, hml, hown, hts⟩ (ct_X11_hasStation l G ad a1 _) (cwV 1 hts gX11_want_X11_hasStation rfl rfl rfl (by decide +kernel) ⟨Nat.le_of_ble_eq_true rfl, Nat.le_of_ble_eq_true rfl⟩) (z_preV hK hW rfl rfl) rfl rfl hl.1 rfl (lv_room (Nat.le_of_ble_eq_true rfl)) dX11_want_2 ⟨Nat.le_of_ble_eq_true rfl, Nat.le_of_ble_eq_true rfl⟩) (fun r u1 H locs hp hW hS => ?_)
  obtain ⟨e9, rfl⟩ := hp
  rw [e9] at hW
  refine lv_if_eq (tgt := 18) hx hb dX11_want_5 (by decide) (fun c1 => ?_) (fun c1 => absurd (by decide) c1)
  refine lv_iconst (v := 0) hx hb dX11_want_18 (by decide) ?_
  exact z_zret hx hb hr (by decide) hK hS (Nat.le_of_ble_eq_true rfl) (Nat.le_of_ble_eq_true rfl) hlocks dX11_want_19 (shX, ad, IX, JX, PX ad) hW rfl
set_option maxHeartbeats 4000000 in
set_option maxRecDepth 100000 in
theorem ct_X12_want (l : Launch) (G : z_G) (ad : Nat → Nat) (a1 : Int32) (a2 : Int32) : z_M l yX12_want wsX12_want { frames := 2, cells := 0, slots := 0, locals := 34 } [.ref (ad 0), .int a1, .int a2] G (shM, ad, IM, JM, PM ad) (fun r u1 => r = 0) 0 0 := by
  intro sz
  refine z_headQ (cc := cX12_want) (maxL := 3) (ret := (some .boolean)) (by decide) rfl (Nat.le_of_ble_eq_true rfl) ?_
  intro p e s m below meth c ls hIn hK hsz hW hl
  obtain ⟨hx, hb, hr, hml, hown, hts, hlocks, hname⟩ := hIn
  subst hsz
  have hown : s.vm.findClass RX12 = some m.cls := hown
  have hA : ∀ q : Nat, s.heap.size ≤ q → z_A (shM, ad, IM, JM, PM ad) s.heap.size q := fun q h => Or.inr h
  generalize hAe : z_A (shM, ad, IM, JM, PM ad) s.heap.size = A at *
  have hS : va_S A s.heap s.heap [] := va_S.rf
  have hl : lv_has ls 3 [(0, .ref (ad 0)), (1, .int a1), (2, .int a2)] := hl
  refine lv_aload_n hx hb dX12_want_0 rfl (lv_at hl 0 rfl) ?_
  refine lv_iload_n hx hb dX12_want_1 rfl (lv_at hl 1 rfl) ?_
  refine z_ci hW hS hA (va_runV (As := [.int a1]) (rest := []) ⟨hx, hb, hml, hown, hts⟩ (ct_X12_isStation l G ad a1 _) (cwV 1 hts gX12_want_X12_isStation rfl rfl rfl (by decide +kernel) ⟨Nat.le_of_ble_eq_true rfl, Nat.le_of_ble_eq_true rfl⟩) (z_preV hK hW rfl rfl) rfl rfl hl.1 rfl (lv_room (Nat.le_of_ble_eq_true rfl)) dX12_want_2 ⟨Nat.le_of_ble_eq_true rfl, Nat.le_of_ble_eq_true rfl⟩) (fun r u1 H locs hp hW hS => ?_)
  obtain ⟨e9, rfl⟩ := hp
  rw [e9] at hW
  refine lv_if_eq (tgt := 18) hx hb dX12_want_5 (by decide) (fun c1 => ?_) (fun c1 => absurd (by decide) c1)
  refine lv_iconst (v := 0) hx hb dX12_want_18 (by decide) ?_
  exact z_zret hx hb hr (by decide) hK hS (Nat.le_of_ble_eq_true rfl) (Nat.le_of_ble_eq_true rfl) hlocks dX12_want_19 (shM, ad, IM, JM, PM ad) hW rfl
theorem zi_X11_road_X11 : ∀ w ∈ wsX110, w ∈ wsX11_road := fun w h => (List.mem_cons_of_mem _ (List.mem_append_left _ (List.mem_append_right _ h)))
set_option maxHeartbeats 4000000 in
set_option maxRecDepth 100000 in
theorem ct_X11_road (l : Launch) (G : z_G) (ad : Nat → Nat) (a1 : Int32) (a2 : Int32) (a3 : Int32) : z_M l yX11_road wsX11_road { frames := 2, cells := 0, slots := 0, locals := 34 } [.ref (ad 0), .int a1, .int a2, .int a3] G (shX, ad, IX, JX, PX ad) (fun r u1 => r = 0) 0 0 := by
  intro sz
  refine z_headQ (cc := cX11_road) (maxL := 4) (ret := (some .boolean)) (by decide) rfl (Nat.le_of_ble_eq_true rfl) ?_
  intro p e s m below meth c ls hIn hK hsz hW hl
  obtain ⟨hx, hb, hr, hml, hown, hts, hlocks, hname⟩ := hIn
  subst hsz
  have hown : s.vm.findClass RX11 = some m.cls := hown
  have hA : ∀ q : Nat, s.heap.size ≤ q → z_A (shX, ad, IX, JX, PX ad) s.heap.size q := fun q h => Or.inr h
  generalize hAe : z_A (shX, ad, IX, JX, PX ad) s.heap.size = A at *
  have hS : va_S A s.heap s.heap [] := va_S.rf
  have hl : lv_has ls 4 [(0, .ref (ad 0)), (1, .int a1), (2, .int a2), (3, .int a3)] := hl
  refine lv_aload_n hx hb dX11_road_0 rfl (lv_at hl 0 rfl) ?_
  refine z_get (T := TX11) (N := 13) (ci := 11) (i := 0) (v := .ref (ad 41)) hx hb hts zi_X11_road_X11 hown hK hW rfl rfl 10 (by decide) (hts (.fieldLink RX11 61 "PetrolBoard" "loads" "LPetrolBoard$Loads;") (List.mem_of_getElem? (i := 1) rfl)) (fun _ h => h) rfl dX11_road_1 ?_
  refine lv_iload_n hx hb dX11_road_4 rfl (lv_at hl 1 rfl) ?_
  refine z_ci hW hS hA (va_runV (As := [.int a1]) (rest := []) ⟨hx, hb, hml, hown, hts⟩ (ct_X4_hasPort l G ad a1 _) (cwV 1 hts gX11_road_X4_hasPort rfl rfl rfl (by decide +kernel) ⟨Nat.le_of_ble_eq_true rfl, Nat.le_of_ble_eq_true rfl⟩) (z_preV hK hW rfl rfl) rfl rfl hl.1 rfl (lv_room (Nat.le_of_ble_eq_true rfl)) dX11_road_5 ⟨Nat.le_of_ble_eq_true rfl, Nat.le_of_ble_eq_true rfl⟩) (fun r u1 H locs hp hW hS => ?_)
  obtain ⟨e9, rfl⟩ := hp
  rw [e9] at hW
  refine lv_if_eq (tgt := 30) hx hb dX11_road_8 (by decide) (fun c1 => ?_) (fun c1 => absurd (by decide) c1)
  refine lv_iconst (v := 0) hx hb dX11_road_30 (by decide) ?_
  exact z_zret hx hb hr (by decide) hK hS (Nat.le_of_ble_eq_true rfl) (Nat.le_of_ble_eq_true rfl) hlocks dX11_road_31 (shX, ad, IX, JX, PX ad) hW rfl
theorem zi_X12_road_X12 : ∀ w ∈ wsX120, w ∈ wsX12_road := fun w h => (List.mem_cons_of_mem _ (List.mem_append_right _ h))
set_option maxHeartbeats 4000000 in
set_option maxRecDepth 100000 in
theorem ct_X12_road (l : Launch) (G : z_G) (ad : Nat → Nat) (a1 : Int32) (a2 : Int32) (a3 : Int32) : z_M l yX12_road wsX12_road { frames := 2, cells := 0, slots := 0, locals := 34 } [.ref (ad 0), .int a1, .int a2, .int a3] G (shM, ad, IM, JM, PM ad) (fun r u1 => r = 0) 0 0 := by
  intro sz
  refine z_headQ (cc := cX12_road) (maxL := 4) (ret := (some .boolean)) (by decide) rfl (Nat.le_of_ble_eq_true rfl) ?_
  intro p e s m below meth c ls hIn hK hsz hW hl
  obtain ⟨hx, hb, hr, hml, hown, hts, hlocks, hname⟩ := hIn
  subst hsz
  have hown : s.vm.findClass RX12 = some m.cls := hown
  have hA : ∀ q : Nat, s.heap.size ≤ q → z_A (shM, ad, IM, JM, PM ad) s.heap.size q := fun q h => Or.inr h
  generalize hAe : z_A (shM, ad, IM, JM, PM ad) s.heap.size = A at *
  have hS : va_S A s.heap s.heap [] := va_S.rf
  have hl : lv_has ls 4 [(0, .ref (ad 0)), (1, .int a1), (2, .int a2), (3, .int a3)] := hl
  refine lv_iload_n hx hb dX12_road_0 rfl (lv_at hl 1 rfl) ?_
  refine lv_if_lt (tgt := 31) hx hb dX12_road_1 (by decide) (fun c1 => ?_) (fun c1 => ?_)
  · refine lv_iconst (v := 0) hx hb dX12_road_31 (by decide) ?_
    exact z_zret hx hb hr (by decide) hK hS (Nat.le_of_ble_eq_true rfl) (Nat.le_of_ble_eq_true rfl) hlocks dX12_road_32 (shM, ad, IM, JM, PM ad) hW rfl
  · refine lv_iload_n hx hb dX12_road_4 rfl (lv_at hl 1 rfl) ?_
    refine lv_aload_n hx hb dX12_road_5 rfl (lv_at hl 0 rfl) ?_
    refine z_get (T := TX12) (N := 96) (ci := 12) (i := 0) (v := .int 0) hx hb hts zi_X12_road_X12 hown hK hW rfl rfl 75 (by decide) (hts (.fieldLink RX12 493 "PetrolBoardModel" "ports" "I") (List.mem_of_getElem? (i := 1) rfl)) (fun _ h => h) rfl dX12_road_6 ?_
    refine lv_icmp_ge (tgt := 31) hx hb dX12_road_9 (by decide) (fun c2 => ?_) (fun c2 => False.elim (by simp only [Int32.lt_iff_toInt_lt, Int32.le_iff_toInt_le, ← Int32.toInt_inj, z_l0] at c1 c2; omega))
    refine lv_iconst (v := 0) hx hb dX12_road_31 (by decide) ?_
    exact z_zret hx hb hr (by decide) hK hS (Nat.le_of_ble_eq_true rfl) (Nat.le_of_ble_eq_true rfl) hlocks dX12_road_32 (shM, ad, IM, JM, PM ad) hW rfl
theorem zi_X11_ask_X11 : ∀ w ∈ wsX110, w ∈ wsX11_ask := fun w h => (List.mem_cons_of_mem _ (List.mem_append_left _ (List.mem_append_left _ (List.mem_append_left _ (List.mem_append_left _ (List.mem_append_left _ (List.mem_append_right _ h)))))))
set_option maxHeartbeats 4000000 in
set_option maxRecDepth 100000 in
theorem ct_X11_ask (l : Launch) (G : z_G) (ad : Nat → Nat) (a1 : Int32) (a2 : Int32) (a3 : Int32) (a4 : Int32) (a5 : Int32) (a6 : Int32) : z_M l yX11_ask wsX11_ask { frames := 3, cells := 0, slots := 0, locals := 54 } [.ref (ad 0), .int a1, .int a2, .int a3, .int a4, .int a5, .int a6] G (shX, ad, IX, JX, PX ad) (fun r u1 => r = (-1)) 0 0 := by
  intro sz
  refine z_headQ (cc := cX11_ask) (maxL := 8) (ret := (some .int)) (by decide) rfl (Nat.le_of_ble_eq_true rfl) ?_
  intro p e s m below meth c ls hIn hK hsz hW hl
  obtain ⟨hx, hb, hr, hml, hown, hts, hlocks, hname⟩ := hIn
  subst hsz
  have hown : s.vm.findClass RX11 = some m.cls := hown
  have hA : ∀ q : Nat, s.heap.size ≤ q → z_A (shX, ad, IX, JX, PX ad) s.heap.size q := fun q h => Or.inr h
  generalize hAe : z_A (shX, ad, IX, JX, PX ad) s.heap.size = A at *
  have hS : va_S A s.heap s.heap [] := va_S.rf
  have hl : lv_has ls 8 [(0, .ref (ad 0)), (1, .int a1), (2, .int a2), (3, .int a3), (4, .int a4), (5, .int a5), (6, .int a6)] := hl
  refine lv_aload_n hx hb dX11_ask_0 rfl (lv_at hl 0 rfl) ?_
  refine z_get (T := TX11) (N := 13) (ci := 11) (i := 0) (v := .ref (ad 1)) hx hb hts zi_X11_ask_X11 hown hK hW rfl rfl 2 (by decide) (hts (.fieldLink RX11 16 "PetrolBoard" "holders" "LPetrolBoard$Holders;") (List.mem_of_getElem? (i := 1) rfl)) (fun _ h => h) rfl dX11_ask_1 ?_
  refine lv_iload_n hx hb dX11_ask_4 rfl (lv_at hl 1 rfl) ?_
  refine z_ci hW hS hA (va_runV (As := [.int a1]) (rest := []) ⟨hx, hb, hml, hown, hts⟩ (ct_X2_has l G ad a1 _) (cwV 1 hts gX11_ask_X2_has rfl rfl rfl (by decide +kernel) ⟨Nat.le_of_ble_eq_true rfl, Nat.le_of_ble_eq_true rfl⟩) (z_preV hK hW rfl rfl) rfl rfl hl.1 rfl (lv_room (Nat.le_of_ble_eq_true rfl)) dX11_ask_5 ⟨Nat.le_of_ble_eq_true rfl, Nat.le_of_ble_eq_true rfl⟩) (fun r u1 H locs hp hW hS => ?_)
  obtain ⟨e9, rfl⟩ := hp
  rw [e9] at hW
  refine lv_if_eq (tgt := 32) hx hb dX11_ask_8 (by decide) (fun c1 => ?_) (fun c1 => absurd (by decide) c1)
  refine lv_iconst (v := (-1)) hx hb dX11_ask_32 (by decide) ?_
  exact z_iret hx hb hr hK hS (Nat.le_of_ble_eq_true rfl) (Nat.le_of_ble_eq_true rfl) hlocks dX11_ask_33 (shX, ad, IX, JX, PX ad) hW rfl
set_option maxHeartbeats 4000000 in
set_option maxRecDepth 100000 in
theorem ct_X12_ask (l : Launch) (G : z_G) (ad : Nat → Nat) (a1 : Int32) (a2 : Int32) (a3 : Int32) (a4 : Int32) (a5 : Int32) (a6 : Int32) : z_M l yX12_ask wsX12_ask { frames := 2, cells := 0, slots := 0, locals := 34 } [.ref (ad 0), .int a1, .int a2, .int a3, .int a4, .int a5, .int a6] G (shM, ad, IM, JM, PM ad) (fun r u1 => r = (-1)) 0 0 := by
  intro sz
  refine z_headQ (cc := cX12_ask) (maxL := 8) (ret := (some .int)) (by decide) rfl (Nat.le_of_ble_eq_true rfl) ?_
  intro p e s m below meth c ls hIn hK hsz hW hl
  obtain ⟨hx, hb, hr, hml, hown, hts, hlocks, hname⟩ := hIn
  subst hsz
  have hown : s.vm.findClass RX12 = some m.cls := hown
  have hA : ∀ q : Nat, s.heap.size ≤ q → z_A (shM, ad, IM, JM, PM ad) s.heap.size q := fun q h => Or.inr h
  generalize hAe : z_A (shM, ad, IM, JM, PM ad) s.heap.size = A at *
  have hS : va_S A s.heap s.heap [] := va_S.rf
  have hl : lv_has ls 8 [(0, .ref (ad 0)), (1, .int a1), (2, .int a2), (3, .int a3), (4, .int a4), (5, .int a5), (6, .int a6)] := hl
  refine lv_aload_n hx hb dX12_ask_0 rfl (lv_at hl 0 rfl) ?_
  refine lv_iload_n hx hb dX12_ask_1 rfl (lv_at hl 1 rfl) ?_
  refine z_ci hW hS hA (va_runV (As := [.int a1]) (rest := []) ⟨hx, hb, hml, hown, hts⟩ (ct_X12_isHolder l G ad a1 _) (cwV 1 hts gX12_ask_X12_isHolder rfl rfl rfl (by decide +kernel) ⟨Nat.le_of_ble_eq_true rfl, Nat.le_of_ble_eq_true rfl⟩) (z_preV hK hW rfl rfl) rfl rfl hl.1 rfl (lv_room (Nat.le_of_ble_eq_true rfl)) dX12_ask_2 ⟨Nat.le_of_ble_eq_true rfl, Nat.le_of_ble_eq_true rfl⟩) (fun r u1 H locs hp hW hS => ?_)
  obtain ⟨e9, rfl⟩ := hp
  rw [e9] at hW
  refine lv_if_eq (tgt := 87) hx hb dX12_ask_5 (by decide) (fun c1 => ?_) (fun c1 => absurd (by decide) c1)
  refine lv_iconst (v := (-1)) hx hb dX12_ask_87 (by decide) ?_
  exact z_iret hx hb hr hK hS (Nat.le_of_ble_eq_true rfl) (Nat.le_of_ble_eq_true rfl) hlocks dX12_ask_88 (shM, ad, IM, JM, PM ad) hW rfl
theorem zi_X11_appeal_X11 : ∀ w ∈ wsX110, w ∈ wsX11_appeal := fun w h => (List.mem_cons_of_mem _ (List.mem_append_left _ (List.mem_append_left _ (List.mem_append_left _ (List.mem_append_left _ (List.mem_append_left _ (List.mem_append_right _ h)))))))
set_option maxHeartbeats 4000000 in
set_option maxRecDepth 100000 in
theorem ct_X11_appeal (l : Launch) (G : z_G) (ad : Nat → Nat) (a1 : Int32) (a2 : Int32) : z_M l yX11_appeal wsX11_appeal { frames := 3, cells := 0, slots := 0, locals := 54 } [.ref (ad 0), .int a1, .int a2] G (shX, ad, IX, JX, PX ad) (fun r u1 => r = (-1)) 0 0 := by
  intro sz
  refine z_headQ (cc := cX11_appeal) (maxL := 3) (ret := (some .int)) (by decide) rfl (Nat.le_of_ble_eq_true rfl) ?_
  intro p e s m below meth c ls hIn hK hsz hW hl
  obtain ⟨hx, hb, hr, hml, hown, hts, hlocks, hname⟩ := hIn
  subst hsz
  have hown : s.vm.findClass RX11 = some m.cls := hown
  have hA : ∀ q : Nat, s.heap.size ≤ q → z_A (shX, ad, IX, JX, PX ad) s.heap.size q := fun q h => Or.inr h
  generalize hAe : z_A (shX, ad, IX, JX, PX ad) s.heap.size = A at *
  have hS : va_S A s.heap s.heap [] := va_S.rf
  have hl : lv_has ls 3 [(0, .ref (ad 0)), (1, .int a1), (2, .int a2)] := hl
  refine lv_aload_n hx hb dX11_appeal_0 rfl (lv_at hl 0 rfl) ?_
  refine z_get (T := TX11) (N := 13) (ci := 11) (i := 0) (v := .ref (ad 60)) hx hb hts zi_X11_appeal_X11 hown hK hW rfl rfl 11 (by decide) (hts (.fieldLink RX11 68 "PetrolBoard" "journeys" "LPetrolBoard$Journeys;") (List.mem_of_getElem? (i := 1) rfl)) (fun _ h => h) rfl dX11_appeal_1 ?_
  refine lv_iload_n hx hb dX11_appeal_4 rfl (lv_at hl 1 rfl) ?_
  refine z_ci hW hS hA (va_runV (As := [.int a1]) (rest := []) ⟨hx, hb, hml, hown, hts⟩ (ct_X3_has l G ad a1 _) (cwV 1 hts gX11_appeal_X3_has rfl rfl rfl (by decide +kernel) ⟨Nat.le_of_ble_eq_true rfl, Nat.le_of_ble_eq_true rfl⟩) (z_preV hK hW rfl rfl) rfl rfl hl.1 rfl (lv_room (Nat.le_of_ble_eq_true rfl)) dX11_appeal_5 ⟨Nat.le_of_ble_eq_true rfl, Nat.le_of_ble_eq_true rfl⟩) (fun r u1 H locs hp hW hS => ?_)
  obtain ⟨e9, rfl⟩ := hp
  rw [e9] at hW
  refine lv_if_eq (tgt := 18) hx hb dX11_appeal_8 (by decide) (fun c1 => ?_) (fun c1 => absurd (by decide) c1)
  refine lv_iconst (v := (-1)) hx hb dX11_appeal_18 (by decide) ?_
  exact z_iret hx hb hr hK hS (Nat.le_of_ble_eq_true rfl) (Nat.le_of_ble_eq_true rfl) hlocks dX11_appeal_19 (shX, ad, IX, JX, PX ad) hW rfl
theorem zi_X12_appeal_X12 : ∀ w ∈ wsX120, w ∈ wsX12_appeal := fun w h => (List.mem_cons_of_mem _ (List.mem_append_right _ h))
set_option maxHeartbeats 4000000 in
set_option maxRecDepth 100000 in
theorem ct_X12_appeal (l : Launch) (G : z_G) (ad : Nat → Nat) (a1 : Int32) (a2 : Int32) : z_M l yX12_appeal wsX12_appeal { frames := 2, cells := 0, slots := 0, locals := 34 } [.ref (ad 0), .int a1, .int a2] G (shM, ad, IM, JM, PM ad) (fun r u1 => r = (-1)) 0 0 := by
  intro sz
  refine z_headQ (cc := cX12_appeal) (maxL := 3) (ret := (some .int)) (by decide) rfl (Nat.le_of_ble_eq_true rfl) ?_
  intro p e s m below meth c ls hIn hK hsz hW hl
  obtain ⟨hx, hb, hr, hml, hown, hts, hlocks, hname⟩ := hIn
  subst hsz
  have hown : s.vm.findClass RX12 = some m.cls := hown
  have hA : ∀ q : Nat, s.heap.size ≤ q → z_A (shM, ad, IM, JM, PM ad) s.heap.size q := fun q h => Or.inr h
  generalize hAe : z_A (shM, ad, IM, JM, PM ad) s.heap.size = A at *
  have hS : va_S A s.heap s.heap [] := va_S.rf
  have hl : lv_has ls 3 [(0, .ref (ad 0)), (1, .int a1), (2, .int a2)] := hl
  refine lv_iload_n hx hb dX12_appeal_0 rfl (lv_at hl 1 rfl) ?_
  refine lv_if_lt (tgt := 21) hx hb dX12_appeal_1 (by decide) (fun c1 => ?_) (fun c1 => ?_)
  · refine lv_iconst (v := (-1)) hx hb dX12_appeal_21 (by decide) ?_
    exact z_iret hx hb hr hK hS (Nat.le_of_ble_eq_true rfl) (Nat.le_of_ble_eq_true rfl) hlocks dX12_appeal_22 (shM, ad, IM, JM, PM ad) hW rfl
  · refine lv_iload_n hx hb dX12_appeal_4 rfl (lv_at hl 1 rfl) ?_
    refine lv_aload_n hx hb dX12_appeal_5 rfl (lv_at hl 0 rfl) ?_
    refine z_get (T := TX12) (N := 96) (ci := 12) (i := 0) (v := .int 0) hx hb hts zi_X12_appeal_X12 hown hK hW rfl rfl 83 (by decide) (hts (.fieldLink RX12 505 "PetrolBoardModel" "journeys" "I") (List.mem_of_getElem? (i := 1) rfl)) (fun _ h => h) rfl dX12_appeal_6 ?_
    refine lv_icmp_ge (tgt := 21) hx hb dX12_appeal_9 (by decide) (fun c2 => ?_) (fun c2 => False.elim (by simp only [Int32.lt_iff_toInt_lt, Int32.le_iff_toInt_le, ← Int32.toInt_inj, z_l0] at c1 c2; omega))
    refine lv_iconst (v := (-1)) hx hb dX12_appeal_21 (by decide) ?_
    exact z_iret hx hb hr hK hS (Nat.le_of_ble_eq_true rfl) (Nat.le_of_ble_eq_true rfl) hlocks dX12_appeal_22 (shM, ad, IM, JM, PM ad) hW rfl
theorem zi_X11_journey_X11 : ∀ w ∈ wsX110, w ∈ wsX11_journey := fun w h => (List.mem_cons_of_mem _ (List.mem_append_left _ (List.mem_append_left _ (List.mem_append_right _ h))))
set_option maxHeartbeats 4000000 in
set_option maxRecDepth 100000 in
theorem ct_X11_journey (l : Launch) (G : z_G) (ad : Nat → Nat) (a1 : Int32) (a2 : Int32) : z_M l yX11_journey wsX11_journey { frames := 2, cells := 0, slots := 0, locals := 33 } [.ref (ad 0), .int a1, .int a2] G (shX, ad, IX, JX, PX ad) (fun r u1 => r = (-1)) 0 0 := by
  intro sz
  refine z_headQ (cc := cX11_journey) (maxL := 3) (ret := (some .int)) (by decide) rfl (Nat.le_of_ble_eq_true rfl) ?_
  intro p e s m below meth c ls hIn hK hsz hW hl
  obtain ⟨hx, hb, hr, hml, hown, hts, hlocks, hname⟩ := hIn
  subst hsz
  have hown : s.vm.findClass RX11 = some m.cls := hown
  have hA : ∀ q : Nat, s.heap.size ≤ q → z_A (shX, ad, IX, JX, PX ad) s.heap.size q := fun q h => Or.inr h
  generalize hAe : z_A (shX, ad, IX, JX, PX ad) s.heap.size = A at *
  have hS : va_S A s.heap s.heap [] := va_S.rf
  have hl : lv_has ls 3 [(0, .ref (ad 0)), (1, .int a1), (2, .int a2)] := hl
  refine lv_aload_n hx hb dX11_journey_0 rfl (lv_at hl 0 rfl) ?_
  refine z_get (T := TX11) (N := 13) (ci := 11) (i := 0) (v := .ref (ad 60)) hx hb hts zi_X11_journey_X11 hown hK hW rfl rfl 11 (by decide) (hts (.fieldLink RX11 68 "PetrolBoard" "journeys" "LPetrolBoard$Journeys;") (List.mem_of_getElem? (i := 1) rfl)) (fun _ h => h) rfl dX11_journey_1 ?_
  refine lv_iload_n hx hb dX11_journey_4 rfl (lv_at hl 1 rfl) ?_
  refine z_ci hW hS hA (va_runV (As := [.int a1]) (rest := []) ⟨hx, hb, hml, hown, hts⟩ (ct_X3_has l G ad a1 _) (cwV 1 hts gX11_journey_X3_has rfl rfl rfl (by decide +kernel) ⟨Nat.le_of_ble_eq_true rfl, Nat.le_of_ble_eq_true rfl⟩) (z_preV hK hW rfl rfl) rfl rfl hl.1 rfl (lv_room (Nat.le_of_ble_eq_true rfl)) dX11_journey_5 ⟨Nat.le_of_ble_eq_true rfl, Nat.le_of_ble_eq_true rfl⟩) (fun r u1 H locs hp hW hS => ?_)
  obtain ⟨e9, rfl⟩ := hp
  rw [e9] at hW
  refine lv_if_ne (tgt := 13) hx hb dX11_journey_8 (by decide) (fun c1 => absurd c1 (by decide)) (fun c1 => ?_)
  refine lv_iconst (v := (-1)) hx hb dX11_journey_11 (by decide) ?_
  exact z_iret hx hb hr hK hS (Nat.le_of_ble_eq_true rfl) (Nat.le_of_ble_eq_true rfl) hlocks dX11_journey_12 (shX, ad, IX, JX, PX ad) hW rfl
theorem zi_X12_journey_X12 : ∀ w ∈ wsX120, w ∈ wsX12_journey := fun w h => (List.mem_cons_of_mem _ (List.mem_append_right _ h))
set_option maxHeartbeats 4000000 in
set_option maxRecDepth 100000 in
theorem ct_X12_journey (l : Launch) (G : z_G) (ad : Nat → Nat) (a1 : Int32) (a2 : Int32) : z_M l yX12_journey wsX12_journey { frames := 1, cells := 0, slots := 0, locals := 12 } [.ref (ad 0), .int a1, .int a2] G (shM, ad, IM, JM, PM ad) (fun r u1 => r = (-1)) 0 0 := by
  intro sz
  refine z_headQ (cc := cX12_journey) (maxL := 5) (ret := (some .int)) (by decide) rfl (Nat.le_of_ble_eq_true rfl) ?_
  intro p e s m below meth c ls hIn hK hsz hW hl
  obtain ⟨hx, hb, hr, hml, hown, hts, hlocks, hname⟩ := hIn
  subst hsz
  have hown : s.vm.findClass RX12 = some m.cls := hown
  have hA : ∀ q : Nat, s.heap.size ≤ q → z_A (shM, ad, IM, JM, PM ad) s.heap.size q := fun q h => Or.inr h
  generalize hAe : z_A (shM, ad, IM, JM, PM ad) s.heap.size = A at *
  have hS : va_S A s.heap s.heap [] := va_S.rf
  have hl : lv_has ls 5 [(0, .ref (ad 0)), (1, .int a1), (2, .int a2)] := hl
  refine lv_iload_n hx hb dX12_journey_0 rfl (lv_at hl 1 rfl) ?_
  refine lv_if_lt (tgt := 12) hx hb dX12_journey_1 (by decide) (fun c1 => ?_) (fun c1 => ?_)
  · refine lv_iconst (v := (-1)) hx hb dX12_journey_12 (by decide) ?_
    exact z_iret hx hb hr hK hS (Nat.le_of_ble_eq_true rfl) (Nat.le_of_ble_eq_true rfl) hlocks dX12_journey_13 (shM, ad, IM, JM, PM ad) hW rfl
  · refine lv_iload_n hx hb dX12_journey_4 rfl (lv_at hl 1 rfl) ?_
    refine lv_aload_n hx hb dX12_journey_5 rfl (lv_at hl 0 rfl) ?_
    refine z_get (T := TX12) (N := 96) (ci := 12) (i := 0) (v := .int 0) hx hb hts zi_X12_journey_X12 hown hK hW rfl rfl 83 (by decide) (hts (.fieldLink RX12 505 "PetrolBoardModel" "journeys" "I") (List.mem_of_getElem? (i := 1) rfl)) (fun _ h => h) rfl dX12_journey_6 ?_
    refine lv_icmp_lt (tgt := 14) hx hb dX12_journey_9 (by decide) (fun c2 => False.elim (by simp only [Int32.lt_iff_toInt_lt, Int32.le_iff_toInt_le, ← Int32.toInt_inj, z_l0] at c1 c2; omega)) (fun c2 => ?_)
    refine lv_iconst (v := (-1)) hx hb dX12_journey_12 (by decide) ?_
    exact z_iret hx hb hr hK hS (Nat.le_of_ble_eq_true rfl) (Nat.le_of_ble_eq_true rfl) hlocks dX12_journey_13 (shM, ad, IM, JM, PM ad) hW rfl
end
section
theorem dX2_cancelNote_0 : decode cX2_cancelNote 0 = .ok (.iload_n 1, 1) := by decide +kernel
theorem dX2_cancelNote_1 : decode cX2_cancelNote 1 = .ok (.ifCond .lt 30, 3) := by decide +kernel
theorem dX2_cancelNote_31 : decode cX2_cancelNote 31 = .ok (.iconst 0, 1) := by decide +kernel
theorem dX2_cancelNote_32 : decode cX2_cancelNote 32 = .ok (.ireturn, 1) := by decide +kernel
theorem dX2_cancelNote_4 : decode cX2_cancelNote 4 = .ok (.iload_n 1, 1) := by decide +kernel
theorem dX2_cancelNote_5 : decode cX2_cancelNote 5 = .ok (.aload_n 0, 1) := by decide +kernel
theorem dX2_cancelNote_6 : decode cX2_cancelNote 6 = .ok (.getfield 46, 3) := by decide +kernel
theorem dX2_cancelNote_9 : decode cX2_cancelNote 9 = .ok (.if_icmp .ge 22, 3) := by decide +kernel
theorem dX11_undo_0 : decode cX11_undo 0 = .ok (.aload_n 0, 1) := by decide +kernel
theorem dX11_undo_1 : decode cX11_undo 1 = .ok (.getfield 16, 3) := by decide +kernel
theorem dX11_undo_4 : decode cX11_undo 4 = .ok (.iload_n 1, 1) := by decide +kernel
theorem dX11_undo_5 : decode cX11_undo 5 = .ok (.aload_n 0, 1) := by decide +kernel
theorem dX11_undo_6 : decode cX11_undo 6 = .ok (.getfield 85, 3) := by decide +kernel
set_option maxRecDepth 20000 in
theorem ggX11_undo_X2_cancelNote : GoodIn wsX11_undo wsX2_cancelNote := goodIn_r _ [7, 8, 9, 23, 24, 25, 26, 27, 28, 29, 30, 31, 32, 33, 34] (by decide +kernel) (by decide +kernel)
set_option maxRecDepth 20000 in
theorem gX11_undo_X2_cancelNote : GoodIn wsX11_undo (wsV RX11 107 RX2 yX2_cancelNote wsX2_cancelNote) := goodIn_app (goodIn_of _ (by decide +kernel)) ggX11_undo_X2_cancelNote
theorem dX11_undo_9 : decode cX11_undo 9 = .ok (.invokevirtual 107, 3) := by decide +kernel
theorem dX11_undo_12 : decode cX11_undo 12 = .ok (.ireturn, 1) := by decide +kernel
theorem dX11_day_0 : decode cX11_day 0 = .ok (.iload_n 1, 1) := by decide +kernel
theorem dX11_day_1 : decode cX11_day 1 = .ok (.aload_n 0, 1) := by decide +kernel
theorem dX11_day_2 : decode cX11_day 2 = .ok (.getfield 85, 3) := by decide +kernel
theorem dX11_day_5 : decode cX11_day 5 = .ok (.if_icmp .le 10, 3) := by decide +kernel
theorem dX11_day_15 : decode cX11_day 15 = .ok (.iconst 0, 1) := by decide +kernel
theorem dX11_day_16 : decode cX11_day 16 = .ok (.ireturn, 1) := by decide +kernel
theorem dX11_day_8 : decode cX11_day 8 = .ok (.iload_n 1, 1) := by decide +kernel
theorem dX11_day_9 : decode cX11_day 9 = .ok (.sipush 720, 3) := by decide +kernel
theorem dX11_day_12 : decode cX11_day 12 = .ok (.if_icmp .lt 5, 3) := by decide +kernel
theorem dX11_day_17 : decode cX11_day 17 = .ok (.aload_n 0, 1) := by decide +kernel
theorem dX11_day_18 : decode cX11_day 18 = .ok (.iload_n 1, 1) := by decide +kernel
theorem dX11_day_19 : decode cX11_day 19 = .ok (.putfield 85, 3) := by decide +kernel
theorem dX11_day_22 : decode cX11_day 22 = .ok (.iconst 1, 1) := by decide +kernel
theorem dX11_day_23 : decode cX11_day 23 = .ok (.ireturn, 1) := by decide +kernel
theorem dX11_fault_0 : decode cX11_fault 0 = .ok (.aload_n 0, 1) := by decide +kernel
theorem dX11_fault_1 : decode cX11_fault 1 = .ok (.getfield 9, 3) := by decide +kernel
theorem dX11_fault_4 : decode cX11_fault 4 = .ok (.ireturn, 1) := by decide +kernel
theorem dX11_level_0 : decode cX11_level 0 = .ok (.iload_n 1, 1) := by decide +kernel
theorem dX11_level_1 : decode cX11_level 1 = .ok (.ifCond .lt 23, 3) := by decide +kernel
theorem dX11_level_24 : decode cX11_level 24 = .ok (.iconst 0, 1) := by decide +kernel
theorem dX11_level_25 : decode cX11_level 25 = .ok (.ireturn, 1) := by decide +kernel
theorem dX11_level_4 : decode cX11_level 4 = .ok (.iload_n 1, 1) := by decide +kernel
theorem dX11_level_5 : decode cX11_level 5 = .ok (.aload_n 0, 1) := by decide +kernel
theorem dX11_level_6 : decode cX11_level 6 = .ok (.getfield 54, 3) := by decide +kernel
theorem dX11_level_9 : decode cX11_level 9 = .ok (.arraylength, 1) := by decide +kernel
theorem dX11_level_10 : decode cX11_level 10 = .ok (.if_icmp .ge 14, 3) := by decide +kernel
theorem dX11_level_13 : decode cX11_level 13 = .ok (.iload_n 2, 1) := by decide +kernel
theorem dX11_level_14 : decode cX11_level 14 = .ok (.iconst 0, 1) := by decide +kernel
theorem dX11_level_15 : decode cX11_level 15 = .ok (.ldc_w 291, 3) := by decide +kernel
set_option maxRecDepth 20000 in
theorem ggX11_level_X11_within : GoodIn wsX11_level wsX11_within := goodIn_r _ [6] (by decide +kernel) (by decide +kernel)
set_option maxRecDepth 20000 in
theorem gX11_level_X11_within : GoodIn wsX11_level (va_wsS RX11 88 yX11_within wsX11_within) := goodIn_app (goodIn_of _ (by decide +kernel)) ggX11_level_X11_within
theorem dX11_level_18 : decode cX11_level 18 = .ok (.invokestatic 88, 3) := by decide +kernel
theorem dX11_level_21 : decode cX11_level 21 = .ok (.ifCond .ne 5, 3) := by decide +kernel
theorem dX11_level_26 : decode cX11_level 26 = .ok (.aload_n 0, 1) := by decide +kernel
theorem dX11_level_27 : decode cX11_level 27 = .ok (.getfield 54, 3) := by decide +kernel
theorem dX11_level_30 : decode cX11_level 30 = .ok (.iload_n 1, 1) := by decide +kernel
theorem dX11_level_31 : decode cX11_level 31 = .ok (.iload_n 2, 1) := by decide +kernel
theorem dX11_level_32 : decode cX11_level 32 = .ok (.iastore, 1) := by decide +kernel
theorem dX11_level_33 : decode cX11_level 33 = .ok (.iconst 1, 1) := by decide +kernel
theorem dX11_level_34 : decode cX11_level 34 = .ok (.ireturn, 1) := by decide +kernel
theorem dX12_day_0 : decode cX12_day 0 = .ok (.iload_n 1, 1) := by decide +kernel
theorem dX12_day_1 : decode cX12_day 1 = .ok (.aload_n 0, 1) := by decide +kernel
theorem dX12_day_2 : decode cX12_day 2 = .ok (.getfield 232, 3) := by decide +kernel
theorem dX12_day_5 : decode cX12_day 5 = .ok (.if_icmp .le 10, 3) := by decide +kernel
theorem dX12_day_15 : decode cX12_day 15 = .ok (.iconst 0, 1) := by decide +kernel
theorem dX12_day_16 : decode cX12_day 16 = .ok (.ireturn, 1) := by decide +kernel
theorem dX12_day_8 : decode cX12_day 8 = .ok (.iload_n 1, 1) := by decide +kernel
theorem dX12_day_9 : decode cX12_day 9 = .ok (.sipush 719, 3) := by decide +kernel
theorem dX12_day_12 : decode cX12_day 12 = .ok (.if_icmp .le 5, 3) := by decide +kernel
theorem dX12_day_17 : decode cX12_day 17 = .ok (.aload_n 0, 1) := by decide +kernel
theorem dX12_day_18 : decode cX12_day 18 = .ok (.iload_n 1, 1) := by decide +kernel
theorem dX12_day_19 : decode cX12_day 19 = .ok (.putfield 232, 3) := by decide +kernel
theorem dX12_day_22 : decode cX12_day 22 = .ok (.iconst 1, 1) := by decide +kernel
theorem dX12_day_23 : decode cX12_day 23 = .ok (.ireturn, 1) := by decide +kernel
theorem dX12_fault_0 : decode cX12_fault 0 = .ok (.aload_n 0, 1) := by decide +kernel
theorem dX12_fault_1 : decode cX12_fault 1 = .ok (.getfield 87, 3) := by decide +kernel
theorem dX12_fault_4 : decode cX12_fault 4 = .ok (.ireturn, 1) := by decide +kernel
theorem dX12_level_0 : decode cX12_level 0 = .ok (.iload_n 1, 1) := by decide +kernel
theorem dX12_level_1 : decode cX12_level 1 = .ok (.iconst 0, 1) := by decide +kernel
theorem dX12_level_2 : decode cX12_level 2 = .ok (.bipush 29, 2) := by decide +kernel
set_option maxRecDepth 20000 in
theorem ggX12_level_X12_within : GoodIn wsX12_level wsX12_within := goodIn_r _ [6] (by decide +kernel) (by decide +kernel)
set_option maxRecDepth 20000 in
theorem gX12_level_X12_within : GoodIn wsX12_level (va_wsS RX12 235 yX12_within wsX12_within) := goodIn_app (goodIn_of _ (by decide +kernel)) ggX12_level_X12_within
theorem dX12_level_4 : decode cX12_level 4 = .ok (.invokestatic 235, 3) := by decide +kernel
theorem dX12_level_7 : decode cX12_level 7 = .ok (.ifCond .eq 14, 3) := by decide +kernel
theorem dX12_level_10 : decode cX12_level 10 = .ok (.iload_n 2, 1) := by decide +kernel
theorem dX12_level_11 : decode cX12_level 11 = .ok (.iconst 0, 1) := by decide +kernel
theorem dX12_level_12 : decode cX12_level 12 = .ok (.ldc_w 492, 3) := by decide +kernel
theorem dX12_level_15 : decode cX12_level 15 = .ok (.invokestatic 235, 3) := by decide +kernel
theorem dX12_level_18 : decode cX12_level 18 = .ok (.ifCond .ne 5, 3) := by decide +kernel
theorem dX12_level_23 : decode cX12_level 23 = .ok (.aload_n 0, 1) := by decide +kernel
theorem dX12_level_24 : decode cX12_level 24 = .ok (.getfield 169, 3) := by decide +kernel
theorem dX12_level_27 : decode cX12_level 27 = .ok (.iload_n 1, 1) := by decide +kernel
theorem dX12_level_28 : decode cX12_level 28 = .ok (.iload_n 2, 1) := by decide +kernel
theorem dX12_level_29 : decode cX12_level 29 = .ok (.iastore, 1) := by decide +kernel
theorem dX12_level_30 : decode cX12_level 30 = .ok (.iconst 1, 1) := by decide +kernel
theorem dX12_level_31 : decode cX12_level 31 = .ok (.ireturn, 1) := by decide +kernel
theorem dX12_level_21 : decode cX12_level 21 = .ok (.iconst 0, 1) := by decide +kernel
theorem dX12_level_22 : decode cX12_level 22 = .ok (.ireturn, 1) := by decide +kernel
theorem dX4_addPort_0 : decode cX4_addPort 0 = .ok (.aload_n 0, 1) := by decide +kernel
theorem dX4_addPort_1 : decode cX4_addPort 1 = .ok (.getfield 44, 3) := by decide +kernel
theorem dX4_addPort_4 : decode cX4_addPort 4 = .ok (.iconst 4, 1) := by decide +kernel
theorem dX4_addPort_5 : decode cX4_addPort 5 = .ok (.if_icmp .lt 5, 3) := by decide +kernel
theorem dX4_addPort_10 : decode cX4_addPort 10 = .ok (.aload_n 0, 1) := by decide +kernel
theorem dX4_addPort_11 : decode cX4_addPort 11 = .ok (.getfield 9, 3) := by decide +kernel
theorem dX4_addPort_14 : decode cX4_addPort 14 = .ok (.aload_n 0, 1) := by decide +kernel
theorem dX4_addPort_15 : decode cX4_addPort 15 = .ok (.getfield 44, 3) := by decide +kernel
theorem dX4_addPort_18 : decode cX4_addPort 18 = .ok (.iload_n 1, 1) := by decide +kernel
theorem dX4_addPort_19 : decode cX4_addPort 19 = .ok (.iastore, 1) := by decide +kernel
theorem dX4_addPort_20 : decode cX4_addPort 20 = .ok (.aload_n 0, 1) := by decide +kernel
theorem dX4_addPort_21 : decode cX4_addPort 21 = .ok (.dup, 1) := by decide +kernel
theorem dX4_addPort_22 : decode cX4_addPort 22 = .ok (.getfield 44, 3) := by decide +kernel
theorem dX4_addPort_25 : decode cX4_addPort 25 = .ok (.iconst 1, 1) := by decide +kernel
theorem dX4_addPort_26 : decode cX4_addPort 26 = .ok (.iadd, 1) := by decide +kernel
theorem dX4_addPort_27 : decode cX4_addPort 27 = .ok (.putfield 44, 3) := by decide +kernel
theorem dX4_addPort_30 : decode cX4_addPort 30 = .ok (.aload_n 0, 1) := by decide +kernel
theorem dX4_addPort_31 : decode cX4_addPort 31 = .ok (.getfield 44, 3) := by decide +kernel
theorem dX4_addPort_34 : decode cX4_addPort 34 = .ok (.iconst 1, 1) := by decide +kernel
theorem dX4_addPort_35 : decode cX4_addPort 35 = .ok (.isub, 1) := by decide +kernel
theorem dX4_addPort_36 : decode cX4_addPort 36 = .ok (.ireturn, 1) := by decide +kernel
theorem dX2_add_0 : decode cX2_add 0 = .ok (.aload_n 0, 1) := by decide +kernel
theorem dX2_add_1 : decode cX2_add 1 = .ok (.getfield 42, 3) := by decide +kernel
theorem dX2_add_4 : decode cX2_add 4 = .ok (.bipush 30, 2) := by decide +kernel
theorem dX2_add_6 : decode cX2_add 6 = .ok (.if_icmp .lt 5, 3) := by decide +kernel
theorem dX2_add_11 : decode cX2_add 11 = .ok (.aload_n 0, 1) := by decide +kernel
theorem dX2_add_12 : decode cX2_add 12 = .ok (.getfield 9, 3) := by decide +kernel
theorem dX2_add_15 : decode cX2_add 15 = .ok (.aload_n 0, 1) := by decide +kernel
theorem dX2_add_16 : decode cX2_add 16 = .ok (.getfield 42, 3) := by decide +kernel
theorem dX2_add_19 : decode cX2_add 19 = .ok (.iload_n 1, 1) := by decide +kernel
theorem dX2_add_20 : decode cX2_add 20 = .ok (.iastore, 1) := by decide +kernel
theorem dX2_add_21 : decode cX2_add 21 = .ok (.aload_n 0, 1) := by decide +kernel
theorem dX2_add_22 : decode cX2_add 22 = .ok (.getfield 15, 3) := by decide +kernel
theorem dX2_add_25 : decode cX2_add 25 = .ok (.aload_n 0, 1) := by decide +kernel
theorem dX2_add_26 : decode cX2_add 26 = .ok (.getfield 42, 3) := by decide +kernel
theorem dX2_add_29 : decode cX2_add 29 = .ok (.iload_n 2, 1) := by decide +kernel
theorem dX2_add_30 : decode cX2_add 30 = .ok (.iastore, 1) := by decide +kernel
theorem dX2_add_31 : decode cX2_add 31 = .ok (.aload_n 0, 1) := by decide +kernel
theorem dX2_add_32 : decode cX2_add 32 = .ok (.getfield 18, 3) := by decide +kernel
theorem dX2_add_35 : decode cX2_add 35 = .ok (.aload_n 0, 1) := by decide +kernel
theorem dX2_add_36 : decode cX2_add 36 = .ok (.getfield 42, 3) := by decide +kernel
theorem dX2_add_39 : decode cX2_add 39 = .ok (.iload_n 3, 1) := by decide +kernel
theorem dX2_add_40 : decode cX2_add 40 = .ok (.iastore, 1) := by decide +kernel
theorem dX2_add_41 : decode cX2_add 41 = .ok (.aload_n 0, 1) := by decide +kernel
theorem dX2_add_42 : decode cX2_add 42 = .ok (.getfield 21, 3) := by decide +kernel
theorem dX2_add_45 : decode cX2_add 45 = .ok (.aload_n 0, 1) := by decide +kernel
theorem dX2_add_46 : decode cX2_add 46 = .ok (.getfield 42, 3) := by decide +kernel
theorem dX2_add_49 : decode cX2_add 49 = .ok (.iload 4, 2) := by decide +kernel
theorem dX2_add_51 : decode cX2_add 51 = .ok (.iastore, 1) := by decide +kernel
theorem dX2_add_52 : decode cX2_add 52 = .ok (.aload_n 0, 1) := by decide +kernel
theorem dX2_add_53 : decode cX2_add 53 = .ok (.getfield 24, 3) := by decide +kernel
theorem dX2_add_56 : decode cX2_add 56 = .ok (.aload_n 0, 1) := by decide +kernel
theorem dX2_add_57 : decode cX2_add 57 = .ok (.getfield 42, 3) := by decide +kernel
theorem dX2_add_60 : decode cX2_add 60 = .ok (.iload 5, 2) := by decide +kernel
theorem dX2_add_62 : decode cX2_add 62 = .ok (.iastore, 1) := by decide +kernel
theorem dX2_add_63 : decode cX2_add 63 = .ok (.aload_n 0, 1) := by decide +kernel
theorem dX2_add_64 : decode cX2_add 64 = .ok (.dup, 1) := by decide +kernel
theorem dX2_add_65 : decode cX2_add 65 = .ok (.getfield 42, 3) := by decide +kernel
theorem dX2_add_68 : decode cX2_add 68 = .ok (.iconst 1, 1) := by decide +kernel
theorem dX2_add_69 : decode cX2_add 69 = .ok (.iadd, 1) := by decide +kernel
theorem dX2_add_70 : decode cX2_add 70 = .ok (.putfield 42, 3) := by decide +kernel
theorem dX2_add_73 : decode cX2_add 73 = .ok (.aload_n 0, 1) := by decide +kernel
theorem dX2_add_74 : decode cX2_add 74 = .ok (.getfield 42, 3) := by decide +kernel
theorem dX2_add_77 : decode cX2_add 77 = .ok (.iconst 1, 1) := by decide +kernel
theorem dX2_add_78 : decode cX2_add 78 = .ok (.isub, 1) := by decide +kernel
theorem dX2_add_79 : decode cX2_add 79 = .ok (.ireturn, 1) := by decide +kernel
theorem dX8_judgedGood_0 : decode cX8_judgedGood 0 = .ok (.iconst 0, 1) := by decide +kernel
theorem dX8_judgedGood_1 : decode cX8_judgedGood 1 = .ok (.istore_n 1, 1) := by decide +kernel
theorem dX8_judgedGood_2 : decode cX8_judgedGood 2 = .ok (.iconst 0, 1) := by decide +kernel
theorem dX8_judgedGood_3 : decode cX8_judgedGood 3 = .ok (.istore_n 2, 1) := by decide +kernel
theorem dX8_judgedGood_4 : decode cX8_judgedGood 4 = .ok (.iload_n 2, 1) := by decide +kernel
theorem dX8_judgedGood_5 : decode cX8_judgedGood 5 = .ok (.aload_n 0, 1) := by decide +kernel
theorem dX8_judgedGood_6 : decode cX8_judgedGood 6 = .ok (.getfield 36, 3) := by decide +kernel
theorem dX8_judgedGood_9 : decode cX8_judgedGood 9 = .ok (.if_icmp .ge 33, 3) := by decide +kernel
theorem dX8_judgedGood_42 : decode cX8_judgedGood 42 = .ok (.iload_n 1, 1) := by decide +kernel
theorem dX8_judgedGood_43 : decode cX8_judgedGood 43 = .ok (.ireturn, 1) := by decide +kernel
theorem dX8_judgedOtherwise_0 : decode cX8_judgedOtherwise 0 = .ok (.iconst 0, 1) := by decide +kernel
theorem dX8_judgedOtherwise_1 : decode cX8_judgedOtherwise 1 = .ok (.istore_n 1, 1) := by decide +kernel
theorem dX8_judgedOtherwise_2 : decode cX8_judgedOtherwise 2 = .ok (.iconst 0, 1) := by decide +kernel
theorem dX8_judgedOtherwise_3 : decode cX8_judgedOtherwise 3 = .ok (.istore_n 2, 1) := by decide +kernel
theorem dX8_judgedOtherwise_4 : decode cX8_judgedOtherwise 4 = .ok (.iload_n 2, 1) := by decide +kernel
theorem dX8_judgedOtherwise_5 : decode cX8_judgedOtherwise 5 = .ok (.aload_n 0, 1) := by decide +kernel
theorem dX8_judgedOtherwise_6 : decode cX8_judgedOtherwise 6 = .ok (.getfield 36, 3) := by decide +kernel
theorem dX8_judgedOtherwise_9 : decode cX8_judgedOtherwise 9 = .ok (.if_icmp .ge 33, 3) := by decide +kernel
theorem dX8_judgedOtherwise_42 : decode cX8_judgedOtherwise 42 = .ok (.iload_n 1, 1) := by decide +kernel
theorem dX8_judgedOtherwise_43 : decode cX8_judgedOtherwise 43 = .ok (.ireturn, 1) := by decide +kernel
theorem dX8_tell_0 : decode cX8_tell 0 = .ok (.aload_n 0, 1) := by decide +kernel
theorem dX8_tell_1 : decode cX8_tell 1 = .ok (.iload_n 1, 1) := by decide +kernel
set_option maxRecDepth 20000 in
theorem ggX8_tell_X8_has : GoodIn wsX8_tell wsX8_has := goodIn_r _ [12, 13, 14, 15, 16, 17, 18, 19, 20, 21, 22] (by decide +kernel) (by decide +kernel)
set_option maxRecDepth 20000 in
theorem gX8_tell_X8_has : GoodIn wsX8_tell (wsV RX8 40 RX8 yX8_has wsX8_has) := goodIn_app (goodIn_of _ (by decide +kernel)) ggX8_tell_X8_has
theorem dX8_tell_2 : decode cX8_tell 2 = .ok (.invokevirtual 40, 3) := by decide +kernel
theorem dX8_tell_5 : decode cX8_tell 5 = .ok (.ifCond .ne 5, 3) := by decide +kernel
theorem dX8_tell_8 : decode cX8_tell 8 = .ok (.iconst (-1), 1) := by decide +kernel
theorem dX8_tell_9 : decode cX8_tell 9 = .ok (.ireturn, 1) := by decide +kernel
theorem dX11_port_0 : decode cX11_port 0 = .ok (.iload_n 1, 1) := by decide +kernel
theorem dX11_port_1 : decode cX11_port 1 = .ok (.iconst 0, 1) := by decide +kernel
theorem dX11_port_2 : decode cX11_port 2 = .ok (.bipush 50, 2) := by decide +kernel
set_option maxRecDepth 20000 in
theorem ggX11_port_X11_within : GoodIn wsX11_port wsX11_within := goodIn_r _ [5] (by decide +kernel) (by decide +kernel)
set_option maxRecDepth 20000 in
theorem gX11_port_X11_within : GoodIn wsX11_port (va_wsS RX11 88 yX11_within wsX11_within) := goodIn_app (goodIn_of _ (by decide +kernel)) ggX11_port_X11_within
theorem dX11_port_4 : decode cX11_port 4 = .ok (.invokestatic 88, 3) := by decide +kernel
theorem dX11_port_7 : decode cX11_port 7 = .ok (.ifCond .ne 5, 3) := by decide +kernel
theorem dX11_port_12 : decode cX11_port 12 = .ok (.aload_n 0, 1) := by decide +kernel
theorem dX11_port_13 : decode cX11_port 13 = .ok (.getfield 61, 3) := by decide +kernel
theorem dX11_port_16 : decode cX11_port 16 = .ok (.iload_n 1, 1) := by decide +kernel
set_option maxRecDepth 20000 in
theorem ggX11_port_X4_addPort : GoodIn wsX11_port wsX4_addPort := goodIn_r _ [10, 11, 12, 26, 27, 28, 29, 30, 31, 32, 33, 34, 35, 36, 37, 38] (by decide +kernel) (by decide +kernel)
set_option maxRecDepth 20000 in
theorem gX11_port_X4_addPort : GoodIn wsX11_port (wsV RX11 296 RX4 yX4_addPort wsX4_addPort) := goodIn_app (goodIn_of _ (by decide +kernel)) ggX11_port_X4_addPort
theorem dX11_port_17 : decode cX11_port 17 = .ok (.invokevirtual 296, 3) := by decide +kernel
theorem dX11_port_20 : decode cX11_port 20 = .ok (.ireturn, 1) := by decide +kernel
theorem dX11_port_10 : decode cX11_port 10 = .ok (.iconst (-1), 1) := by decide +kernel
theorem dX11_port_11 : decode cX11_port 11 = .ok (.ireturn, 1) := by decide +kernel
theorem dX11_holder_0 : decode cX11_holder 0 = .ok (.iload_n 1, 1) := by decide +kernel
theorem dX11_holder_1 : decode cX11_holder 1 = .ok (.iconst 1, 1) := by decide +kernel
theorem dX11_holder_2 : decode cX11_holder 2 = .ok (.bipush 9, 2) := by decide +kernel
set_option maxRecDepth 20000 in
theorem ggX11_holder_X11_within : GoodIn wsX11_holder wsX11_within := goodIn_r _ [5] (by decide +kernel) (by decide +kernel)
set_option maxRecDepth 20000 in
theorem gX11_holder_X11_within : GoodIn wsX11_holder (va_wsS RX11 88 yX11_within wsX11_within) := goodIn_app (goodIn_of _ (by decide +kernel)) ggX11_holder_X11_within
theorem dX11_holder_4 : decode cX11_holder 4 = .ok (.invokestatic 88, 3) := by decide +kernel
theorem dX11_holder_7 : decode cX11_holder 7 = .ok (.ifCond .eq 23, 3) := by decide +kernel
theorem dX11_holder_10 : decode cX11_holder 10 = .ok (.iload_n 2, 1) := by decide +kernel
theorem dX11_holder_11 : decode cX11_holder 11 = .ok (.iconst 0, 1) := by decide +kernel
theorem dX11_holder_12 : decode cX11_holder 12 = .ok (.bipush 9, 2) := by decide +kernel
theorem dX11_holder_14 : decode cX11_holder 14 = .ok (.invokestatic 88, 3) := by decide +kernel
theorem dX11_holder_17 : decode cX11_holder 17 = .ok (.ifCond .eq 13, 3) := by decide +kernel
theorem dX11_holder_20 : decode cX11_holder 20 = .ok (.iload_n 3, 1) := by decide +kernel
theorem dX11_holder_21 : decode cX11_holder 21 = .ok (.iconst 1, 1) := by decide +kernel
theorem dX11_holder_22 : decode cX11_holder 22 = .ok (.bipush 8, 2) := by decide +kernel
theorem dX11_holder_24 : decode cX11_holder 24 = .ok (.invokestatic 88, 3) := by decide +kernel
theorem dX11_holder_27 : decode cX11_holder 27 = .ok (.ifCond .ne 5, 3) := by decide +kernel
theorem dX11_holder_32 : decode cX11_holder 32 = .ok (.iload 4, 2) := by decide +kernel
theorem dX11_holder_34 : decode cX11_holder 34 = .ok (.iconst 0, 1) := by decide +kernel
theorem dX11_holder_35 : decode cX11_holder 35 = .ok (.sipush 999, 3) := by decide +kernel
theorem dX11_holder_38 : decode cX11_holder 38 = .ok (.invokestatic 88, 3) := by decide +kernel
theorem dX11_holder_41 : decode cX11_holder 41 = .ok (.ifCond .eq 14, 3) := by decide +kernel
theorem dX11_holder_44 : decode cX11_holder 44 = .ok (.iload 5, 2) := by decide +kernel
theorem dX11_holder_46 : decode cX11_holder 46 = .ok (.iconst 0, 1) := by decide +kernel
theorem dX11_holder_47 : decode cX11_holder 47 = .ok (.bipush 99, 2) := by decide +kernel
theorem dX11_holder_49 : decode cX11_holder 49 = .ok (.invokestatic 88, 3) := by decide +kernel
theorem dX11_holder_52 : decode cX11_holder 52 = .ok (.ifCond .ne 5, 3) := by decide +kernel
theorem dX11_holder_57 : decode cX11_holder 57 = .ok (.aload_n 0, 1) := by decide +kernel
theorem dX11_holder_58 : decode cX11_holder 58 = .ok (.getfield 16, 3) := by decide +kernel
theorem dX11_holder_61 : decode cX11_holder 61 = .ok (.iload_n 1, 1) := by decide +kernel
theorem dX11_holder_62 : decode cX11_holder 62 = .ok (.iload_n 2, 1) := by decide +kernel
theorem dX11_holder_63 : decode cX11_holder 63 = .ok (.iload_n 3, 1) := by decide +kernel
theorem dX11_holder_64 : decode cX11_holder 64 = .ok (.iload 4, 2) := by decide +kernel
theorem dX11_holder_66 : decode cX11_holder 66 = .ok (.iload 5, 2) := by decide +kernel
set_option maxRecDepth 20000 in
theorem ggX11_holder_X2_add : GoodIn wsX11_holder wsX2_add := goodIn_r _ [10, 11, 12, 13, 14, 15, 16, 30, 31, 32, 33, 34, 35, 36, 37, 38, 39, 40, 41] (by decide +kernel) (by decide +kernel)
set_option maxRecDepth 20000 in
theorem gX11_holder_X2_add : GoodIn wsX11_holder (wsV RX11 92 RX2 yX2_add wsX2_add) := goodIn_app (goodIn_of _ (by decide +kernel)) ggX11_holder_X2_add
theorem dX11_holder_68 : decode cX11_holder 68 = .ok (.invokevirtual 92, 3) := by decide +kernel
theorem dX11_holder_71 : decode cX11_holder 71 = .ok (.ireturn, 1) := by decide +kernel
theorem dX11_holder_55 : decode cX11_holder 55 = .ok (.iconst (-1), 1) := by decide +kernel
theorem dX11_holder_56 : decode cX11_holder 56 = .ok (.ireturn, 1) := by decide +kernel
theorem dX11_holder_30 : decode cX11_holder 30 = .ok (.iconst (-1), 1) := by decide +kernel
theorem dX11_holder_31 : decode cX11_holder 31 = .ok (.ireturn, 1) := by decide +kernel
theorem dX11_count_0 : decode cX11_count 0 = .ok (.iload_n 1, 1) := by decide +kernel
theorem dX11_count_1 : decode cX11_count 1 = .ok (.tableswitch 165 0 12 #[67, 72, 80, 88, 96, 104, 109, 117, 125, 133, 141, 149, 157], 67) := by decide +kernel
theorem dX11_count_68 : decode cX11_count 68 = .ok (.aload_n 0, 1) := by decide +kernel
theorem dX11_count_69 : decode cX11_count 69 = .ok (.getfield 85, 3) := by decide +kernel
theorem dX11_count_72 : decode cX11_count 72 = .ok (.ireturn, 1) := by decide +kernel
theorem dX11_count_73 : decode cX11_count 73 = .ok (.aload_n 0, 1) := by decide +kernel
theorem dX11_count_74 : decode cX11_count 74 = .ok (.getfield 16, 3) := by decide +kernel
theorem dX11_count_77 : decode cX11_count 77 = .ok (.getfield 373, 3) := by decide +kernel
theorem dX11_count_80 : decode cX11_count 80 = .ok (.ireturn, 1) := by decide +kernel
theorem dX11_count_81 : decode cX11_count 81 = .ok (.aload_n 0, 1) := by decide +kernel
theorem dX11_count_82 : decode cX11_count 82 = .ok (.getfield 16, 3) := by decide +kernel
theorem dX11_count_85 : decode cX11_count 85 = .ok (.getfield 407, 3) := by decide +kernel
theorem dX11_count_88 : decode cX11_count 88 = .ok (.ireturn, 1) := by decide +kernel
theorem dX11_count_89 : decode cX11_count 89 = .ok (.aload_n 0, 1) := by decide +kernel
theorem dX11_count_90 : decode cX11_count 90 = .ok (.getfield 30, 3) := by decide +kernel
theorem dX11_count_93 : decode cX11_count 93 = .ok (.getfield 125, 3) := by decide +kernel
theorem dX11_count_96 : decode cX11_count 96 = .ok (.ireturn, 1) := by decide +kernel
theorem dX11_count_97 : decode cX11_count 97 = .ok (.aload_n 0, 1) := by decide +kernel
theorem dX11_count_98 : decode cX11_count 98 = .ok (.getfield 37, 3) := by decide +kernel
theorem dX11_count_101 : decode cX11_count 101 = .ok (.getfield 410, 3) := by decide +kernel
theorem dX11_count_104 : decode cX11_count 104 = .ok (.ireturn, 1) := by decide +kernel
theorem dX11_count_105 : decode cX11_count 105 = .ok (.aload_n 0, 1) := by decide +kernel
theorem dX11_count_106 : decode cX11_count 106 = .ok (.getfield 178, 3) := by decide +kernel
theorem dX11_count_109 : decode cX11_count 109 = .ok (.ireturn, 1) := by decide +kernel
theorem dX11_count_110 : decode cX11_count 110 = .ok (.aload_n 0, 1) := by decide +kernel
theorem dX11_count_111 : decode cX11_count 111 = .ok (.getfield 44, 3) := by decide +kernel
theorem dX11_count_114 : decode cX11_count 114 = .ok (.getfield 201, 3) := by decide +kernel
theorem dX11_count_117 : decode cX11_count 117 = .ok (.ireturn, 1) := by decide +kernel
theorem dX11_count_118 : decode cX11_count 118 = .ok (.aload_n 0, 1) := by decide +kernel
theorem dX11_count_119 : decode cX11_count 119 = .ok (.getfield 44, 3) := by decide +kernel
set_option maxRecDepth 20000 in
theorem ggX11_count_X8_judgedGood : GoodIn wsX11_count wsX8_judgedGood := goodIn_r _ [23, 24, 25, 63, 64, 65, 66, 67, 68, 69, 70, 71] (by decide +kernel) (by decide +kernel)
set_option maxRecDepth 20000 in
theorem gX11_count_X8_judgedGood : GoodIn wsX11_count (wsV RX11 413 RX8 yX8_judgedGood wsX8_judgedGood) := goodIn_app (goodIn_of _ (by decide +kernel)) ggX11_count_X8_judgedGood
theorem dX11_count_122 : decode cX11_count 122 = .ok (.invokevirtual 413, 3) := by decide +kernel
theorem dX11_count_125 : decode cX11_count 125 = .ok (.ireturn, 1) := by decide +kernel
theorem dX11_count_126 : decode cX11_count 126 = .ok (.aload_n 0, 1) := by decide +kernel
theorem dX11_count_127 : decode cX11_count 127 = .ok (.getfield 44, 3) := by decide +kernel
set_option maxRecDepth 20000 in
theorem ggX11_count_X8_judgedOtherwise : GoodIn wsX11_count wsX8_judgedOtherwise := goodIn_r _ [29, 24, 25, 63, 64, 65, 66, 67, 68, 69, 70, 71] (by decide +kernel) (by decide +kernel)
set_option maxRecDepth 20000 in
theorem gX11_count_X8_judgedOtherwise : GoodIn wsX11_count (wsV RX11 416 RX8 yX8_judgedOtherwise wsX8_judgedOtherwise) := goodIn_app (goodIn_of _ (by decide +kernel)) ggX11_count_X8_judgedOtherwise
theorem dX11_count_130 : decode cX11_count 130 = .ok (.invokevirtual 416, 3) := by decide +kernel
theorem dX11_count_133 : decode cX11_count 133 = .ok (.ireturn, 1) := by decide +kernel
theorem dX11_count_134 : decode cX11_count 134 = .ok (.aload_n 0, 1) := by decide +kernel
theorem dX11_count_135 : decode cX11_count 135 = .ok (.getfield 37, 3) := by decide +kernel
theorem dX11_count_138 : decode cX11_count 138 = .ok (.getfield 419, 3) := by decide +kernel
theorem dX11_count_141 : decode cX11_count 141 = .ok (.ireturn, 1) := by decide +kernel
theorem dX11_count_142 : decode cX11_count 142 = .ok (.aload_n 0, 1) := by decide +kernel
theorem dX11_count_143 : decode cX11_count 143 = .ok (.getfield 61, 3) := by decide +kernel
theorem dX11_count_146 : decode cX11_count 146 = .ok (.getfield 422, 3) := by decide +kernel
theorem dX11_count_149 : decode cX11_count 149 = .ok (.ireturn, 1) := by decide +kernel
theorem dX11_count_150 : decode cX11_count 150 = .ok (.aload_n 0, 1) := by decide +kernel
theorem dX11_count_151 : decode cX11_count 151 = .ok (.getfield 68, 3) := by decide +kernel
theorem dX11_count_154 : decode cX11_count 154 = .ok (.getfield 425, 3) := by decide +kernel
theorem dX11_count_157 : decode cX11_count 157 = .ok (.ireturn, 1) := by decide +kernel
theorem dX11_count_158 : decode cX11_count 158 = .ok (.aload_n 0, 1) := by decide +kernel
theorem dX11_count_159 : decode cX11_count 159 = .ok (.getfield 23, 3) := by decide +kernel
theorem dX11_count_162 : decode cX11_count 162 = .ok (.getfield 115, 3) := by decide +kernel
theorem dX11_count_165 : decode cX11_count 165 = .ok (.ireturn, 1) := by decide +kernel
theorem dX11_count_166 : decode cX11_count 166 = .ok (.iconst (-1), 1) := by decide +kernel
theorem dX11_count_167 : decode cX11_count 167 = .ok (.ireturn, 1) := by decide +kernel
theorem dX11_other_0 : decode cX11_other 0 = .ok (.iload_n 1, 1) := by decide +kernel
theorem dX11_other_1 : decode cX11_other 1 = .ok (.iconst 0, 1) := by decide +kernel
theorem dX11_other_2 : decode cX11_other 2 = .ok (.iconst 2, 1) := by decide +kernel
set_option maxRecDepth 20000 in
theorem ggX11_other_X11_within : GoodIn wsX11_other wsX11_within := goodIn_r _ [6] (by decide +kernel) (by decide +kernel)
set_option maxRecDepth 20000 in
theorem gX11_other_X11_within : GoodIn wsX11_other (va_wsS RX11 88 yX11_within wsX11_within) := goodIn_app (goodIn_of _ (by decide +kernel)) ggX11_other_X11_within
theorem dX11_other_3 : decode cX11_other 3 = .ok (.invokestatic 88, 3) := by decide +kernel
theorem dX11_other_6 : decode cX11_other 6 = .ok (.ifCond .eq 31, 3) := by decide +kernel
theorem dX11_other_9 : decode cX11_other 9 = .ok (.iload_n 2, 1) := by decide +kernel
set_option maxRecDepth 20000 in
theorem ggX11_other_X11_isMonth : GoodIn wsX11_other wsX11_isMonth := goodIn_r _ [9, 3, 4, 5, 6] (by decide +kernel) (by decide +kernel)
set_option maxRecDepth 20000 in
theorem gX11_other_X11_isMonth : GoodIn wsX11_other (va_wsS RX11 122 yX11_isMonth wsX11_isMonth) := goodIn_app (goodIn_of _ (by decide +kernel)) ggX11_other_X11_isMonth
theorem dX11_other_10 : decode cX11_other 10 = .ok (.invokestatic 122, 3) := by decide +kernel
theorem dX11_other_13 : decode cX11_other 13 = .ok (.ifCond .eq 24, 3) := by decide +kernel
theorem dX11_other_16 : decode cX11_other 16 = .ok (.aload_n 0, 1) := by decide +kernel
theorem dX11_other_17 : decode cX11_other 17 = .ok (.getfield 16, 3) := by decide +kernel
theorem dX11_other_20 : decode cX11_other 20 = .ok (.iload_n 3, 1) := by decide +kernel
set_option maxRecDepth 20000 in
theorem ggX11_other_X2_has : GoodIn wsX11_other wsX2_has := goodIn_r _ [14, 15, 168, 169, 170, 171, 172, 173, 174, 175, 176, 177, 178, 179] (by decide +kernel) (by decide +kernel)
set_option maxRecDepth 20000 in
theorem gX11_other_X2_has : GoodIn wsX11_other (wsV RX11 96 RX2 yX2_has wsX2_has) := goodIn_app (goodIn_of _ (by decide +kernel)) ggX11_other_X2_has
theorem dX11_other_21 : decode cX11_other 21 = .ok (.invokevirtual 96, 3) := by decide +kernel
theorem dX11_other_24 : decode cX11_other 24 = .ok (.ifCond .eq 13, 3) := by decide +kernel
theorem dX11_other_37 : decode cX11_other 37 = .ok (.iconst (-1), 1) := by decide +kernel
theorem dX11_other_38 : decode cX11_other 38 = .ok (.ireturn, 1) := by decide +kernel
theorem dX11_poured_0 : decode cX11_poured 0 = .ok (.aload_n 0, 1) := by decide +kernel
theorem dX11_poured_1 : decode cX11_poured 1 = .ok (.getfield 44, 3) := by decide +kernel
theorem dX11_poured_4 : decode cX11_poured 4 = .ok (.iload_n 1, 1) := by decide +kernel
theorem dX11_poured_5 : decode cX11_poured 5 = .ok (.iload_n 2, 1) := by decide +kernel
set_option maxRecDepth 20000 in
theorem ggX11_poured_X8_tell : GoodIn wsX11_poured wsX8_tell := goodIn_r _ [6, 7, 8, 9, 10, 11, 12, 13, 14, 15, 16, 5, 17, 18, 32, 33, 34, 35, 36, 37, 38, 39, 40] (by decide +kernel) (by decide +kernel)
set_option maxRecDepth 20000 in
theorem gX11_poured_X8_tell : GoodIn wsX11_poured (wsV RX11 220 RX8 yX8_tell wsX8_tell) := goodIn_app (goodIn_of _ (by decide +kernel)) ggX11_poured_X8_tell
theorem dX11_poured_6 : decode cX11_poured 6 = .ok (.invokevirtual 220, 3) := by decide +kernel
theorem dX11_poured_9 : decode cX11_poured 9 = .ok (.ireturn, 1) := by decide +kernel
theorem dX12_port_0 : decode cX12_port 0 = .ok (.iload_n 1, 1) := by decide +kernel
theorem dX12_port_1 : decode cX12_port 1 = .ok (.iconst 0, 1) := by decide +kernel
theorem dX12_port_2 : decode cX12_port 2 = .ok (.bipush 50, 2) := by decide +kernel
set_option maxRecDepth 20000 in
theorem ggX12_port_X12_within : GoodIn wsX12_port wsX12_within := goodIn_r _ [6] (by decide +kernel) (by decide +kernel)
set_option maxRecDepth 20000 in
theorem gX12_port_X12_within : GoodIn wsX12_port (va_wsS RX12 235 yX12_within wsX12_within) := goodIn_app (goodIn_of _ (by decide +kernel)) ggX12_port_X12_within
theorem dX12_port_4 : decode cX12_port 4 = .ok (.invokestatic 235, 3) := by decide +kernel
theorem dX12_port_7 : decode cX12_port 7 = .ok (.ifCond .eq 11, 3) := by decide +kernel
theorem dX12_port_10 : decode cX12_port 10 = .ok (.aload_n 0, 1) := by decide +kernel
theorem dX12_port_11 : decode cX12_port 11 = .ok (.getfield 493, 3) := by decide +kernel
theorem dX12_port_14 : decode cX12_port 14 = .ok (.iconst 4, 1) := by decide +kernel
theorem dX12_port_15 : decode cX12_port 15 = .ok (.if_icmp .ne 5, 3) := by decide +kernel
theorem dX12_port_20 : decode cX12_port 20 = .ok (.aload_n 0, 1) := by decide +kernel
theorem dX12_port_21 : decode cX12_port 21 = .ok (.getfield 172, 3) := by decide +kernel
theorem dX12_port_24 : decode cX12_port 24 = .ok (.aload_n 0, 1) := by decide +kernel
theorem dX12_port_25 : decode cX12_port 25 = .ok (.getfield 493, 3) := by decide +kernel
theorem dX12_port_28 : decode cX12_port 28 = .ok (.iload_n 1, 1) := by decide +kernel
theorem dX12_port_29 : decode cX12_port 29 = .ok (.iastore, 1) := by decide +kernel
theorem dX12_port_30 : decode cX12_port 30 = .ok (.aload_n 0, 1) := by decide +kernel
theorem dX12_port_31 : decode cX12_port 31 = .ok (.dup, 1) := by decide +kernel
theorem dX12_port_32 : decode cX12_port 32 = .ok (.getfield 493, 3) := by decide +kernel
theorem dX12_port_35 : decode cX12_port 35 = .ok (.iconst 1, 1) := by decide +kernel
theorem dX12_port_36 : decode cX12_port 36 = .ok (.iadd, 1) := by decide +kernel
theorem dX12_port_37 : decode cX12_port 37 = .ok (.putfield 493, 3) := by decide +kernel
theorem dX12_port_40 : decode cX12_port 40 = .ok (.aload_n 0, 1) := by decide +kernel
theorem dX12_port_41 : decode cX12_port 41 = .ok (.getfield 493, 3) := by decide +kernel
theorem dX12_port_44 : decode cX12_port 44 = .ok (.iconst 1, 1) := by decide +kernel
theorem dX12_port_45 : decode cX12_port 45 = .ok (.isub, 1) := by decide +kernel
theorem dX12_port_46 : decode cX12_port 46 = .ok (.ireturn, 1) := by decide +kernel
theorem dX12_port_18 : decode cX12_port 18 = .ok (.iconst (-1), 1) := by decide +kernel
theorem dX12_port_19 : decode cX12_port 19 = .ok (.ireturn, 1) := by decide +kernel
theorem dX12_holder_0 : decode cX12_holder 0 = .ok (.iload_n 1, 1) := by decide +kernel
theorem dX12_holder_1 : decode cX12_holder 1 = .ok (.iconst 1, 1) := by decide +kernel
theorem dX12_holder_2 : decode cX12_holder 2 = .ok (.bipush 9, 2) := by decide +kernel
set_option maxRecDepth 20000 in
theorem ggX12_holder_X12_within : GoodIn wsX12_holder wsX12_within := goodIn_r _ [10] (by decide +kernel) (by decide +kernel)
set_option maxRecDepth 20000 in
theorem gX12_holder_X12_within : GoodIn wsX12_holder (va_wsS RX12 235 yX12_within wsX12_within) := goodIn_app (goodIn_of _ (by decide +kernel)) ggX12_holder_X12_within
theorem dX12_holder_4 : decode cX12_holder 4 = .ok (.invokestatic 235, 3) := by decide +kernel
theorem dX12_holder_7 : decode cX12_holder 7 = .ok (.ifCond .eq 55, 3) := by decide +kernel
theorem dX12_holder_10 : decode cX12_holder 10 = .ok (.iload_n 2, 1) := by decide +kernel
theorem dX12_holder_11 : decode cX12_holder 11 = .ok (.iconst 0, 1) := by decide +kernel
theorem dX12_holder_12 : decode cX12_holder 12 = .ok (.bipush 9, 2) := by decide +kernel
theorem dX12_holder_14 : decode cX12_holder 14 = .ok (.invokestatic 235, 3) := by decide +kernel
theorem dX12_holder_17 : decode cX12_holder 17 = .ok (.ifCond .eq 45, 3) := by decide +kernel
theorem dX12_holder_20 : decode cX12_holder 20 = .ok (.iload_n 3, 1) := by decide +kernel
theorem dX12_holder_21 : decode cX12_holder 21 = .ok (.iconst 1, 1) := by decide +kernel
theorem dX12_holder_22 : decode cX12_holder 22 = .ok (.bipush 8, 2) := by decide +kernel
theorem dX12_holder_24 : decode cX12_holder 24 = .ok (.invokestatic 235, 3) := by decide +kernel
theorem dX12_holder_27 : decode cX12_holder 27 = .ok (.ifCond .eq 35, 3) := by decide +kernel
theorem dX12_holder_30 : decode cX12_holder 30 = .ok (.iload 4, 2) := by decide +kernel
theorem dX12_holder_32 : decode cX12_holder 32 = .ok (.iconst 0, 1) := by decide +kernel
theorem dX12_holder_33 : decode cX12_holder 33 = .ok (.sipush 999, 3) := by decide +kernel
theorem dX12_holder_36 : decode cX12_holder 36 = .ok (.invokestatic 235, 3) := by decide +kernel
theorem dX12_holder_39 : decode cX12_holder 39 = .ok (.ifCond .eq 23, 3) := by decide +kernel
theorem dX12_holder_42 : decode cX12_holder 42 = .ok (.iload 5, 2) := by decide +kernel
theorem dX12_holder_44 : decode cX12_holder 44 = .ok (.iconst 0, 1) := by decide +kernel
theorem dX12_holder_45 : decode cX12_holder 45 = .ok (.bipush 99, 2) := by decide +kernel
theorem dX12_holder_47 : decode cX12_holder 47 = .ok (.invokestatic 235, 3) := by decide +kernel
theorem dX12_holder_50 : decode cX12_holder 50 = .ok (.ifCond .eq 12, 3) := by decide +kernel
theorem dX12_holder_53 : decode cX12_holder 53 = .ok (.aload_n 0, 1) := by decide +kernel
theorem dX12_holder_54 : decode cX12_holder 54 = .ok (.getfield 229, 3) := by decide +kernel
theorem dX12_holder_57 : decode cX12_holder 57 = .ok (.bipush 30, 2) := by decide +kernel
theorem dX12_holder_59 : decode cX12_holder 59 = .ok (.if_icmp .ne 5, 3) := by decide +kernel
theorem dX12_holder_64 : decode cX12_holder 64 = .ok (.aload_n 0, 1) := by decide +kernel
theorem dX12_holder_65 : decode cX12_holder 65 = .ok (.getfield 7, 3) := by decide +kernel
theorem dX12_holder_68 : decode cX12_holder 68 = .ok (.aload_n 0, 1) := by decide +kernel
theorem dX12_holder_69 : decode cX12_holder 69 = .ok (.getfield 229, 3) := by decide +kernel
theorem dX12_holder_72 : decode cX12_holder 72 = .ok (.iload_n 1, 1) := by decide +kernel
theorem dX12_holder_73 : decode cX12_holder 73 = .ok (.iastore, 1) := by decide +kernel
theorem dX12_holder_74 : decode cX12_holder 74 = .ok (.aload_n 0, 1) := by decide +kernel
theorem dX12_holder_75 : decode cX12_holder 75 = .ok (.getfield 13, 3) := by decide +kernel
theorem dX12_holder_78 : decode cX12_holder 78 = .ok (.aload_n 0, 1) := by decide +kernel
theorem dX12_holder_79 : decode cX12_holder 79 = .ok (.getfield 229, 3) := by decide +kernel
theorem dX12_holder_82 : decode cX12_holder 82 = .ok (.iload_n 2, 1) := by decide +kernel
theorem dX12_holder_83 : decode cX12_holder 83 = .ok (.iastore, 1) := by decide +kernel
theorem dX12_holder_84 : decode cX12_holder 84 = .ok (.aload_n 0, 1) := by decide +kernel
theorem dX12_holder_85 : decode cX12_holder 85 = .ok (.getfield 16, 3) := by decide +kernel
theorem dX12_holder_88 : decode cX12_holder 88 = .ok (.aload_n 0, 1) := by decide +kernel
theorem dX12_holder_89 : decode cX12_holder 89 = .ok (.getfield 229, 3) := by decide +kernel
theorem dX12_holder_92 : decode cX12_holder 92 = .ok (.iload_n 3, 1) := by decide +kernel
theorem dX12_holder_93 : decode cX12_holder 93 = .ok (.iastore, 1) := by decide +kernel
theorem dX12_holder_94 : decode cX12_holder 94 = .ok (.aload_n 0, 1) := by decide +kernel
theorem dX12_holder_95 : decode cX12_holder 95 = .ok (.getfield 19, 3) := by decide +kernel
theorem dX12_holder_98 : decode cX12_holder 98 = .ok (.aload_n 0, 1) := by decide +kernel
theorem dX12_holder_99 : decode cX12_holder 99 = .ok (.getfield 229, 3) := by decide +kernel
theorem dX12_holder_102 : decode cX12_holder 102 = .ok (.iload 4, 2) := by decide +kernel
theorem dX12_holder_104 : decode cX12_holder 104 = .ok (.iastore, 1) := by decide +kernel
theorem dX12_holder_105 : decode cX12_holder 105 = .ok (.aload_n 0, 1) := by decide +kernel
theorem dX12_holder_106 : decode cX12_holder 106 = .ok (.getfield 22, 3) := by decide +kernel
theorem dX12_holder_109 : decode cX12_holder 109 = .ok (.aload_n 0, 1) := by decide +kernel
theorem dX12_holder_110 : decode cX12_holder 110 = .ok (.getfield 229, 3) := by decide +kernel
theorem dX12_holder_113 : decode cX12_holder 113 = .ok (.iload 5, 2) := by decide +kernel
theorem dX12_holder_115 : decode cX12_holder 115 = .ok (.iastore, 1) := by decide +kernel
theorem dX12_holder_116 : decode cX12_holder 116 = .ok (.aload_n 0, 1) := by decide +kernel
theorem dX12_holder_117 : decode cX12_holder 117 = .ok (.dup, 1) := by decide +kernel
theorem dX12_holder_118 : decode cX12_holder 118 = .ok (.getfield 229, 3) := by decide +kernel
theorem dX12_holder_121 : decode cX12_holder 121 = .ok (.iconst 1, 1) := by decide +kernel
theorem dX12_holder_122 : decode cX12_holder 122 = .ok (.iadd, 1) := by decide +kernel
theorem dX12_holder_123 : decode cX12_holder 123 = .ok (.putfield 229, 3) := by decide +kernel
theorem dX12_holder_126 : decode cX12_holder 126 = .ok (.aload_n 0, 1) := by decide +kernel
theorem dX12_holder_127 : decode cX12_holder 127 = .ok (.getfield 229, 3) := by decide +kernel
theorem dX12_holder_130 : decode cX12_holder 130 = .ok (.iconst 1, 1) := by decide +kernel
theorem dX12_holder_131 : decode cX12_holder 131 = .ok (.isub, 1) := by decide +kernel
theorem dX12_holder_132 : decode cX12_holder 132 = .ok (.ireturn, 1) := by decide +kernel
theorem dX12_holder_62 : decode cX12_holder 62 = .ok (.iconst (-1), 1) := by decide +kernel
theorem dX12_holder_63 : decode cX12_holder 63 = .ok (.ireturn, 1) := by decide +kernel
theorem dX12_count_0 : decode cX12_count 0 = .ok (.iconst 0, 1) := by decide +kernel
theorem dX12_count_1 : decode cX12_count 1 = .ok (.istore_n 2, 1) := by decide +kernel
theorem dX12_count_2 : decode cX12_count 2 = .ok (.iconst 0, 1) := by decide +kernel
theorem dX12_count_3 : decode cX12_count 3 = .ok (.istore_n 3, 1) := by decide +kernel
theorem dX12_count_4 : decode cX12_count 4 = .ok (.iconst 0, 1) := by decide +kernel
theorem dX12_count_5 : decode cX12_count 5 = .ok (.istore 4, 2) := by decide +kernel
theorem dX12_count_7 : decode cX12_count 7 = .ok (.iload 4, 2) := by decide +kernel
theorem dX12_count_9 : decode cX12_count 9 = .ok (.aload_n 0, 1) := by decide +kernel
theorem dX12_count_10 : decode cX12_count 10 = .ok (.getfield 468, 3) := by decide +kernel
theorem dX12_count_13 : decode cX12_count 13 = .ok (.if_icmp .ge 35, 3) := by decide +kernel
theorem dX12_count_48 : decode cX12_count 48 = .ok (.iload_n 1, 1) := by decide +kernel
theorem dX12_count_49 : decode cX12_count 49 = .ok (.tableswitch 126 0 12 #[67, 72, 77, 82, 87, 92, 97, 102, 104, 106, 111, 116, 121], 67) := by decide +kernel
theorem dX12_count_116 : decode cX12_count 116 = .ok (.aload_n 0, 1) := by decide +kernel
theorem dX12_count_117 : decode cX12_count 117 = .ok (.getfield 232, 3) := by decide +kernel
theorem dX12_count_120 : decode cX12_count 120 = .ok (.ireturn, 1) := by decide +kernel
theorem dX12_count_121 : decode cX12_count 121 = .ok (.aload_n 0, 1) := by decide +kernel
theorem dX12_count_122 : decode cX12_count 122 = .ok (.getfield 229, 3) := by decide +kernel
theorem dX12_count_125 : decode cX12_count 125 = .ok (.ireturn, 1) := by decide +kernel
theorem dX12_count_126 : decode cX12_count 126 = .ok (.aload_n 0, 1) := by decide +kernel
theorem dX12_count_127 : decode cX12_count 127 = .ok (.getfield 246, 3) := by decide +kernel
theorem dX12_count_130 : decode cX12_count 130 = .ok (.ireturn, 1) := by decide +kernel
theorem dX12_count_131 : decode cX12_count 131 = .ok (.aload_n 0, 1) := by decide +kernel
theorem dX12_count_132 : decode cX12_count 132 = .ok (.getfield 408, 3) := by decide +kernel
theorem dX12_count_135 : decode cX12_count 135 = .ok (.ireturn, 1) := by decide +kernel
theorem dX12_count_136 : decode cX12_count 136 = .ok (.aload_n 0, 1) := by decide +kernel
theorem dX12_count_137 : decode cX12_count 137 = .ok (.getfield 449, 3) := by decide +kernel
theorem dX12_count_140 : decode cX12_count 140 = .ok (.ireturn, 1) := by decide +kernel
theorem dX12_count_141 : decode cX12_count 141 = .ok (.aload_n 0, 1) := by decide +kernel
theorem dX12_count_142 : decode cX12_count 142 = .ok (.getfield 461, 3) := by decide +kernel
theorem dX12_count_145 : decode cX12_count 145 = .ok (.ireturn, 1) := by decide +kernel
theorem dX12_count_146 : decode cX12_count 146 = .ok (.aload_n 0, 1) := by decide +kernel
theorem dX12_count_147 : decode cX12_count 147 = .ok (.getfield 468, 3) := by decide +kernel
theorem dX12_count_150 : decode cX12_count 150 = .ok (.ireturn, 1) := by decide +kernel
theorem dX12_count_151 : decode cX12_count 151 = .ok (.iload_n 2, 1) := by decide +kernel
theorem dX12_count_152 : decode cX12_count 152 = .ok (.ireturn, 1) := by decide +kernel
theorem dX12_count_153 : decode cX12_count 153 = .ok (.iload_n 3, 1) := by decide +kernel
theorem dX12_count_154 : decode cX12_count 154 = .ok (.ireturn, 1) := by decide +kernel
theorem dX12_count_155 : decode cX12_count 155 = .ok (.aload_n 0, 1) := by decide +kernel
theorem dX12_count_156 : decode cX12_count 156 = .ok (.getfield 455, 3) := by decide +kernel
theorem dX12_count_159 : decode cX12_count 159 = .ok (.ireturn, 1) := by decide +kernel
theorem dX12_count_160 : decode cX12_count 160 = .ok (.aload_n 0, 1) := by decide +kernel
theorem dX12_count_161 : decode cX12_count 161 = .ok (.getfield 493, 3) := by decide +kernel
theorem dX12_count_164 : decode cX12_count 164 = .ok (.ireturn, 1) := by decide +kernel
theorem dX12_count_165 : decode cX12_count 165 = .ok (.aload_n 0, 1) := by decide +kernel
theorem dX12_count_166 : decode cX12_count 166 = .ok (.getfield 505, 3) := by decide +kernel
theorem dX12_count_169 : decode cX12_count 169 = .ok (.ireturn, 1) := by decide +kernel
theorem dX12_count_170 : decode cX12_count 170 = .ok (.aload_n 0, 1) := by decide +kernel
theorem dX12_count_171 : decode cX12_count 171 = .ok (.getfield 253, 3) := by decide +kernel
theorem dX12_count_174 : decode cX12_count 174 = .ok (.ireturn, 1) := by decide +kernel
theorem dX12_count_175 : decode cX12_count 175 = .ok (.iconst (-1), 1) := by decide +kernel
theorem dX12_count_176 : decode cX12_count 176 = .ok (.ireturn, 1) := by decide +kernel
theorem dX12_other_0 : decode cX12_other 0 = .ok (.iload_n 1, 1) := by decide +kernel
theorem dX12_other_1 : decode cX12_other 1 = .ok (.iconst 0, 1) := by decide +kernel
theorem dX12_other_2 : decode cX12_other 2 = .ok (.iconst 2, 1) := by decide +kernel
set_option maxRecDepth 20000 in
theorem ggX12_other_X12_within : GoodIn wsX12_other wsX12_within := goodIn_r _ [6] (by decide +kernel) (by decide +kernel)
set_option maxRecDepth 20000 in
theorem gX12_other_X12_within : GoodIn wsX12_other (va_wsS RX12 235 yX12_within wsX12_within) := goodIn_app (goodIn_of _ (by decide +kernel)) ggX12_other_X12_within
theorem dX12_other_3 : decode cX12_other 3 = .ok (.invokestatic 235, 3) := by decide +kernel
theorem dX12_other_6 : decode cX12_other 6 = .ok (.ifCond .eq 28, 3) := by decide +kernel
theorem dX12_other_9 : decode cX12_other 9 = .ok (.iload_n 2, 1) := by decide +kernel
set_option maxRecDepth 20000 in
theorem ggX12_other_X12_isMonth : GoodIn wsX12_other wsX12_isMonth := goodIn_r _ [9] (by decide +kernel) (by decide +kernel)
set_option maxRecDepth 20000 in
theorem gX12_other_X12_isMonth : GoodIn wsX12_other (va_wsS RX12 405 yX12_isMonth wsX12_isMonth) := goodIn_app (goodIn_of _ (by decide +kernel)) ggX12_other_X12_isMonth
theorem dX12_other_10 : decode cX12_other 10 = .ok (.invokestatic 405, 3) := by decide +kernel
theorem dX12_other_13 : decode cX12_other 13 = .ok (.ifCond .eq 21, 3) := by decide +kernel
theorem dX12_other_16 : decode cX12_other 16 = .ok (.aload_n 0, 1) := by decide +kernel
theorem dX12_other_17 : decode cX12_other 17 = .ok (.iload_n 3, 1) := by decide +kernel
set_option maxRecDepth 20000 in
theorem ggX12_other_X12_isHolder : GoodIn wsX12_other wsX12_isHolder := goodIn_r _ [13, 14, 82, 83, 84, 85, 86, 87, 88, 89, 90, 91, 92, 93, 94, 95, 96, 97, 98, 99, 100, 101, 102, 103, 104, 105, 106, 107, 108, 109, 110, 111, 112, 113, 114, 115, 116, 117, 118, 119, 120, 121, 122, 123, 124, 125, 126, 127, 128, 129, 130, 131, 132, 133, 134, 135, 136, 137, 138, 139, 140, 141, 142, 143, 144, 145, 146, 147, 148, 149, 150, 151, 152, 153, 154, 155, 156, 157, 158, 159, 160, 161, 162, 163, 164, 165, 166, 167, 168, 169, 170, 171, 172, 173, 174, 175, 176, 177] (by decide +kernel) (by decide +kernel)
set_option maxRecDepth 20000 in
theorem gX12_other_X12_isHolder : GoodIn wsX12_other (wsV RX12 239 RX12 yX12_isHolder wsX12_isHolder) := goodIn_app (goodIn_of _ (by decide +kernel)) ggX12_other_X12_isHolder
theorem dX12_other_18 : decode cX12_other 18 = .ok (.invokevirtual 239, 3) := by decide +kernel
theorem dX12_other_21 : decode cX12_other 21 = .ok (.ifCond .eq 13, 3) := by decide +kernel
theorem dX12_other_34 : decode cX12_other 34 = .ok (.iconst (-1), 1) := by decide +kernel
theorem dX12_other_35 : decode cX12_other 35 = .ok (.ireturn, 1) := by decide +kernel
theorem dX12_poured_0 : decode cX12_poured 0 = .ok (.iload_n 1, 1) := by decide +kernel
theorem dX12_poured_1 : decode cX12_poured 1 = .ok (.ifCond .lt 11, 3) := by decide +kernel
theorem dX12_poured_12 : decode cX12_poured 12 = .ok (.iconst (-1), 1) := by decide +kernel
theorem dX12_poured_13 : decode cX12_poured 13 = .ok (.ireturn, 1) := by decide +kernel
theorem dX12_poured_4 : decode cX12_poured 4 = .ok (.iload_n 1, 1) := by decide +kernel
theorem dX12_poured_5 : decode cX12_poured 5 = .ok (.aload_n 0, 1) := by decide +kernel
theorem dX12_poured_6 : decode cX12_poured 6 = .ok (.getfield 468, 3) := by decide +kernel
theorem dX12_poured_9 : decode cX12_poured 9 = .ok (.if_icmp .lt 5, 3) := by decide +kernel
theorem dX12_deliver_0 : decode cX12_deliver 0 = .ok (.aload_n 0, 1) := by decide +kernel
theorem dX12_deliver_1 : decode cX12_deliver 1 = .ok (.iload_n 1, 1) := by decide +kernel
set_option maxRecDepth 20000 in
theorem ggX12_deliver_X12_isStation : GoodIn wsX12_deliver wsX12_isStation := goodIn_r _ [11, 12, 16, 17, 18, 19, 20, 21, 22, 23, 24, 25, 26, 27, 28, 29, 30, 31, 32, 33, 34, 35, 36, 37, 38, 39, 40, 41, 42, 43, 44, 45, 46, 47, 48, 49, 50, 51, 52, 53, 54, 55, 56, 57, 58, 59, 60, 61, 62, 63, 64, 65, 66, 67, 68, 69, 70, 71, 72, 73, 74, 75, 76, 77, 78, 79, 80, 81, 82, 83, 84, 85, 86, 87, 88, 89, 90, 91, 92, 93, 94, 95, 96, 97, 98, 99, 100, 101, 102, 103, 104, 105, 106, 107, 108, 109, 110, 111] (by decide +kernel) (by decide +kernel)
set_option maxRecDepth 20000 in
theorem gX12_deliver_X12_isStation : GoodIn wsX12_deliver (wsV RX12 464 RX12 yX12_isStation wsX12_isStation) := goodIn_app (goodIn_of _ (by decide +kernel)) ggX12_deliver_X12_isStation
theorem dX12_deliver_2 : decode cX12_deliver 2 = .ok (.invokevirtual 464, 3) := by decide +kernel
theorem dX12_deliver_5 : decode cX12_deliver 5 = .ok (.ifCond .eq 24, 3) := by decide +kernel
theorem dX12_deliver_29 : decode cX12_deliver 29 = .ok (.iconst (-1), 1) := by decide +kernel
theorem dX12_deliver_30 : decode cX12_deliver 30 = .ok (.ireturn, 1) := by decide +kernel
theorem dX12_dip_0 : decode cX12_dip 0 = .ok (.aload_n 0, 1) := by decide +kernel
theorem dX12_dip_1 : decode cX12_dip 1 = .ok (.iload_n 1, 1) := by decide +kernel
set_option maxRecDepth 20000 in
theorem ggX12_dip_X12_isStation : GoodIn wsX12_dip wsX12_isStation := goodIn_r _ [12, 13, 17, 18, 19, 20, 21, 22, 23, 24, 25, 26, 27, 28, 29, 30, 31, 32, 33, 34, 35, 36, 37, 38, 39, 40, 41, 42, 43, 44, 45, 46, 47, 48, 49, 50, 51, 52, 53, 54, 55, 56, 57, 58, 59, 60, 61, 62, 63, 64, 65, 66, 67, 68, 69, 70, 71, 72, 73, 74, 75, 76, 77, 78, 79, 80, 81, 82, 83, 84, 85, 86, 87, 88, 89, 90, 91, 92, 93, 94, 95, 96, 97, 98, 99, 100, 101, 102, 103, 104, 105, 106, 107, 108, 109, 110, 111, 112] (by decide +kernel) (by decide +kernel)
set_option maxRecDepth 20000 in
theorem gX12_dip_X12_isStation : GoodIn wsX12_dip (wsV RX12 464 RX12 yX12_isStation wsX12_isStation) := goodIn_app (goodIn_of _ (by decide +kernel)) ggX12_dip_X12_isStation
theorem dX12_dip_2 : decode cX12_dip 2 = .ok (.invokevirtual 464, 3) := by decide +kernel
theorem dX12_dip_5 : decode cX12_dip 5 = .ok (.ifCond .eq 25, 3) := by decide +kernel
theorem dX12_dip_30 : decode cX12_dip 30 = .ok (.iconst (-1), 1) := by decide +kernel
theorem dX12_dip_31 : decode cX12_dip 31 = .ok (.ireturn, 1) := by decide +kernel
theorem dX12_in_0 : decode cX12_in 0 = .ok (.aload_n 0, 1) := by decide +kernel
theorem dX12_in_1 : decode cX12_in 1 = .ok (.iload_n 1, 1) := by decide +kernel
set_option maxRecDepth 20000 in
theorem ggX12_in_X12_isStation : GoodIn wsX12_in wsX12_isStation := goodIn_r _ [7, 8, 39, 40, 41, 42, 43, 44, 45, 46, 47, 48, 49, 50, 51, 52, 53, 54, 55, 56, 57, 58, 59, 60, 61, 62, 63, 64, 65, 66, 67, 68, 69, 70, 71, 72, 73, 74, 75, 76, 77, 78, 79, 80, 81, 82, 83, 84, 85, 86, 87, 88, 89, 90, 91, 92, 93, 94, 95, 96, 97, 98, 99, 100, 101, 102, 103, 104, 105, 106, 107, 108, 109, 110, 111, 112, 113, 114, 115, 116, 117, 118, 119, 120, 121, 122, 123, 124, 125, 126, 127, 128, 129, 130, 131, 132, 133, 134] (by decide +kernel) (by decide +kernel)
set_option maxRecDepth 20000 in
theorem gX12_in_X12_isStation : GoodIn wsX12_in (wsV RX12 464 RX12 yX12_isStation wsX12_isStation) := goodIn_app (goodIn_of _ (by decide +kernel)) ggX12_in_X12_isStation
theorem dX12_in_2 : decode cX12_in 2 = .ok (.invokevirtual 464, 3) := by decide +kernel
theorem dX12_in_5 : decode cX12_in 5 = .ok (.ifCond .eq 29, 3) := by decide +kernel
theorem dX12_in_34 : decode cX12_in 34 = .ok (.ldc_w 482, 3) := by decide +kernel
theorem dX12_in_37 : decode cX12_in 37 = .ok (.ireturn, 1) := by decide +kernel
theorem dX12_sums__0 : decode cX12_sums_ 0 = .ok (.aload_n 0, 1) := by decide +kernel
theorem dX12_sums__1 : decode cX12_sums_ 1 = .ok (.iload_n 1, 1) := by decide +kernel
set_option maxRecDepth 20000 in
theorem ggX12_sums__X12_isStation : GoodIn wsX12_sums_ wsX12_isStation := goodIn_r _ [8, 9, 52, 53, 54, 55, 56, 57, 58, 59, 60, 61, 62, 63, 64, 65, 66, 67, 68, 69, 70, 71, 72, 73, 74, 75, 76, 77, 78, 79, 80, 81, 82, 83, 84, 85, 86, 87, 88, 89, 90, 91, 92, 93, 94, 95, 96, 97, 98, 99, 100, 101, 102, 103, 104, 105, 106, 107, 108, 109, 110, 111, 112, 113, 114, 115, 116, 117, 118, 119, 120, 121, 122, 123, 124, 125, 126, 127, 128, 129, 130, 131, 132, 133, 134, 135, 136, 137, 138, 139, 140, 141, 142, 143, 144, 145, 146, 147] (by decide +kernel) (by decide +kernel)
set_option maxRecDepth 20000 in
theorem gX12_sums__X12_isStation : GoodIn wsX12_sums_ (wsV RX12 464 RX12 yX12_isStation wsX12_isStation) := goodIn_app (goodIn_of _ (by decide +kernel)) ggX12_sums__X12_isStation
theorem dX12_sums__2 : decode cX12_sums_ 2 = .ok (.invokevirtual 464, 3) := by decide +kernel
theorem dX12_sums__5 : decode cX12_sums_ 5 = .ok (.ifCond .eq 32, 3) := by decide +kernel
theorem dX12_sums__37 : decode cX12_sums_ 37 = .ok (.ldc2_w 269, 3) := by decide +kernel
theorem dX12_sums__40 : decode cX12_sums_ 40 = .ok (.lreturn, 1) := by decide +kernel
theorem dX12_judged_0 : decode cX12_judged 0 = .ok (.aload_n 0, 1) := by decide +kernel
theorem dX12_judged_1 : decode cX12_judged 1 = .ok (.iload_n 1, 1) := by decide +kernel
set_option maxRecDepth 20000 in
theorem ggX12_judged_X12_isStation : GoodIn wsX12_judged wsX12_isStation := goodIn_r _ [8, 9, 49, 50, 51, 52, 53, 54, 55, 56, 57, 58, 59, 60, 61, 62, 63, 64, 65, 66, 67, 68, 69, 70, 71, 72, 73, 74, 75, 76, 77, 78, 79, 80, 81, 82, 83, 84, 85, 86, 87, 88, 89, 90, 91, 92, 93, 94, 95, 96, 97, 98, 99, 100, 101, 102, 103, 104, 105, 106, 107, 108, 109, 110, 111, 112, 113, 114, 115, 116, 117, 118, 119, 120, 121, 122, 123, 124, 125, 126, 127, 128, 129, 130, 131, 132, 133, 134, 135, 136, 137, 138, 139, 140, 141, 142, 143, 144] (by decide +kernel) (by decide +kernel)
set_option maxRecDepth 20000 in
theorem gX12_judged_X12_isStation : GoodIn wsX12_judged (wsV RX12 464 RX12 yX12_isStation wsX12_isStation) := goodIn_app (goodIn_of _ (by decide +kernel)) ggX12_judged_X12_isStation
theorem dX12_judged_2 : decode cX12_judged 2 = .ok (.invokevirtual 464, 3) := by decide +kernel
theorem dX12_judged_5 : decode cX12_judged 5 = .ok (.ifCond .eq 22, 3) := by decide +kernel
theorem dX12_judged_27 : decode cX12_judged 27 = .ok (.ldc2_w 269, 3) := by decide +kernel
theorem dX12_judged_30 : decode cX12_judged 30 = .ok (.lreturn, 1) := by decide +kernel
theorem z_l1 : (1 : Int32).toInt = 1 := by decide
theorem z_l2 : (2 : Int32).toInt = 2 := by decide
theorem z_l3 : (3 : Int32).toInt = 3 := by decide
theorem z_l5 : (5 : Int32).toInt = 5 := by decide
theorem z_l6 : (6 : Int32).toInt = 6 := by decide
theorem z_l7 : (7 : Int32).toInt = 7 := by decide
theorem z_l8 : (8 : Int32).toInt = 8 := by decide
theorem z_l9 : (9 : Int32).toInt = 9 := by decide
theorem z_l10 : (10 : Int32).toInt = 10 := by decide
theorem z_l11 : (11 : Int32).toInt = 11 := by decide
theorem z_l12 : (12 : Int32).toInt = 12 := by decide
theorem z_l29 : (29 : Int32).toInt = 29 := by decide
theorem z_l30 : (30 : Int32).toInt = 30 := by decide
theorem z_l50 : (50 : Int32).toInt = 50 := by decide
theorem z_l99 : (99 : Int32).toInt = 99 := by decide
theorem z_l720 : (720 : Int32).toInt = 720 := by decide
theorem z_l999 : (999 : Int32).toInt = 999 := by decide
theorem z_l300000 : (300000 : Int32).toInt = 300000 := by decide
theorem z_inl {x : Int32} {n : Nat} (h : ¬ (x < 0 ∨ n ≤ x.toNatClampNeg)) : vp_in x n := h
def fr_day (d : Int32) : Int32 := if 0 < d ∧ d ≤ 719 then 1 else 0
def fr_level (k v : Int32) : Int32 := if (0 ≤ k ∧ k ≤ 29) ∧ (0 ≤ v ∧ v ≤ 300000) then 1 else 0
def fr_port (a : Int32) : Int32 := if 0 ≤ a ∧ a ≤ 50 then 0 else -1
def fr_holder (a b c d e : Int32) : Int32 := if (1 ≤ a ∧ a ≤ 9) ∧ (0 ≤ b ∧ b ≤ 9) ∧ (1 ≤ c ∧ c ≤ 8) ∧ (0 ≤ d ∧ d ≤ 999) ∧ (0 ≤ e ∧ e ≤ 99) then 0 else -1
def fr_count (a : Int32) : Int32 := if 0 ≤ a ∧ a ≤ 12 then 0 else -1
theorem zi_X2_cancelNote_X2 : ∀ w ∈ wsX20, w ∈ wsX2_cancelNote := fun w h => (List.mem_cons_of_mem _ (List.mem_append_right _ h))
set_option maxHeartbeats 4000000 in
set_option maxRecDepth 100000 in
theorem ct_X2_cancelNote (l : Launch) (G : z_G) (ad : Nat → Nat) (a1 : Int32) (a2 : Int32) : z_M l yX2_cancelNote wsX2_cancelNote { frames := 1, cells := 0, slots := 0, locals := 12 } [.ref (ad 1), .int a1, .int a2] G (shX, ad, IX, JX, PX ad) (fun r u1 => u1 = (shX, ad, IX, JX, PX ad) ∧ r = 0) 0 0 := by
  intro sz
  refine z_headQ (cc := cX2_cancelNote) (maxL := 3) (ret := (some .boolean)) (by decide) rfl (Nat.le_of_ble_eq_true rfl) ?_
  intro p e s m below meth c ls hIn hK hsz hW hl
  obtain ⟨hx, hb, hr, hml, hown, hts, hlocks, hname⟩ := hIn
  subst hsz
  have hown : s.vm.findClass RX2 = some m.cls := hown
  have hA : ∀ q : Nat, s.heap.size ≤ q → z_A (shX, ad, IX, JX, PX ad) s.heap.size q := fun q h => Or.inr h
  generalize hAe : z_A (shX, ad, IX, JX, PX ad) s.heap.size = A at *
  have hS : va_S A s.heap s.heap [] := va_S.rf
  have hl : lv_has ls 3 [(0, .ref (ad 1)), (1, .int a1), (2, .int a2)] := hl
  refine lv_iload_n hx hb dX2_cancelNote_0 rfl (lv_at hl 1 rfl) ?_
  refine lv_if_lt (tgt := 31) hx hb dX2_cancelNote_1 (by decide) (fun c1 => ?_) (fun c1 => ?_)
  · refine lv_iconst (v := 0) hx hb dX2_cancelNote_31 (by decide) ?_
    exact z_zret hx hb hr (by decide) hK hS (Nat.le_of_ble_eq_true rfl) (Nat.le_of_ble_eq_true rfl) hlocks dX2_cancelNote_32 (shX, ad, IX, JX, PX ad) hW ⟨rfl, rfl⟩
  · refine lv_iload_n hx hb dX2_cancelNote_4 rfl (lv_at hl 1 rfl) ?_
    refine lv_aload_n hx hb dX2_cancelNote_5 rfl (lv_at hl 0 rfl) ?_
    refine z_get (T := TX2) (N := 12) (ci := 2) (i := 1) (v := .int 0) hx hb hts zi_X2_cancelNote_X2 hown hK hW rfl rfl 11 (by decide) (hts (.fieldLink RX2 46 "PetrolBoard$Holders" "notes" "I") (List.mem_of_getElem? (i := 1) rfl)) (fun _ h => h) rfl dX2_cancelNote_6 ?_
    refine lv_icmp_ge (tgt := 31) hx hb dX2_cancelNote_9 (by decide) (fun c2 => ?_) (fun c2 => False.elim (by simp only [Int32.lt_iff_toInt_lt, Int32.le_iff_toInt_le, ← Int32.toInt_inj, z_l0] at c1 c2; omega))
    refine lv_iconst (v := 0) hx hb dX2_cancelNote_31 (by decide) ?_
    exact z_zret hx hb hr (by decide) hK hS (Nat.le_of_ble_eq_true rfl) (Nat.le_of_ble_eq_true rfl) hlocks dX2_cancelNote_32 (shX, ad, IX, JX, PX ad) hW ⟨rfl, rfl⟩
theorem zi_X11_undo_X11 : ∀ w ∈ wsX110, w ∈ wsX11_undo := fun w h => (List.mem_cons_of_mem _ (List.mem_append_left _ (List.mem_append_right _ h)))
set_option maxHeartbeats 4000000 in
set_option maxRecDepth 100000 in
theorem ct_X11_undo (l : Launch) (G : z_G) (ad : Nat → Nat) (a1 : Int32) : z_M l yX11_undo wsX11_undo { frames := 2, cells := 0, slots := 0, locals := 34 } [.ref (ad 0), .int a1] G (shX, ad, IX, JX, PX ad) (fun r u1 => r = 0) 0 0 := by
  intro sz
  refine z_headQ (cc := cX11_undo) (maxL := 2) (ret := (some .boolean)) (by decide) rfl (Nat.le_of_ble_eq_true rfl) ?_
  intro p e s m below meth c ls hIn hK hsz hW hl
  obtain ⟨hx, hb, hr, hml, hown, hts, hlocks, hname⟩ := hIn
  subst hsz
  have hown : s.vm.findClass RX11 = some m.cls := hown
  have hA : ∀ q : Nat, s.heap.size ≤ q → z_A (shX, ad, IX, JX, PX ad) s.heap.size q := fun q h => Or.inr h
  generalize hAe : z_A (shX, ad, IX, JX, PX ad) s.heap.size = A at *
  have hS : va_S A s.heap s.heap [] := va_S.rf
  have hl : lv_has ls 2 [(0, .ref (ad 0)), (1, .int a1)] := hl
  refine lv_aload_n hx hb dX11_undo_0 rfl (lv_at hl 0 rfl) ?_
  refine z_get (T := TX11) (N := 13) (ci := 11) (i := 0) (v := .ref (ad 1)) hx hb hts zi_X11_undo_X11 hown hK hW rfl rfl 2 (by decide) (hts (.fieldLink RX11 16 "PetrolBoard" "holders" "LPetrolBoard$Holders;") (List.mem_of_getElem? (i := 1) rfl)) (fun _ h => h) rfl dX11_undo_1 ?_
  refine lv_iload_n hx hb dX11_undo_4 rfl (lv_at hl 1 rfl) ?_
  refine lv_aload_n hx hb dX11_undo_5 rfl (lv_at hl 0 rfl) ?_
  refine z_get (T := TX11) (N := 13) (ci := 11) (i := 0) (v := .int 0) hx hb hts zi_X11_undo_X11 hown hK hW rfl rfl 0 (by decide) (hts (.fieldLink RX11 85 "PetrolBoard" "today" "I") (List.mem_of_getElem? (i := 2) rfl)) (fun _ h => h) rfl dX11_undo_6 ?_
  refine z_ci hW hS hA (va_runV (As := [.int a1, .int 0]) (rest := []) ⟨hx, hb, hml, hown, hts⟩ (ct_X2_cancelNote l G ad a1 0 _) (cwV 2 hts gX11_undo_X2_cancelNote rfl rfl rfl (by decide +kernel) ⟨Nat.le_of_ble_eq_true rfl, Nat.le_of_ble_eq_true rfl⟩) (z_preV hK hW rfl rfl) rfl rfl hl.1 rfl (lv_room (Nat.le_of_ble_eq_true rfl)) dX11_undo_9 ⟨Nat.le_of_ble_eq_true rfl, Nat.le_of_ble_eq_true rfl⟩) (fun r u1 H locs hp hW hS => ?_)
  obtain ⟨e9, rfl⟩ := hp
  rw [e9] at hW
  exact z_zret hx hb hr (by decide) hK hS (Nat.le_of_ble_eq_true rfl) (Nat.le_of_ble_eq_true rfl) hlocks dX11_undo_12 (shX, ad, IX, JX, PX ad) hW rfl
theorem zi_X11_day_X11 : ∀ w ∈ wsX110, w ∈ wsX11_day := fun w h => (List.mem_cons_of_mem _ (List.mem_append_right _ h))
set_option maxHeartbeats 4000000 in
set_option maxRecDepth 100000 in
theorem ct_X11_day (l : Launch) (G : z_G) (ad : Nat → Nat) (a1 : Int32) : z_M l yX11_day wsX11_day { frames := 1, cells := 0, slots := 0, locals := 12 } [.ref (ad 0), .int a1] G (shX, ad, IX, JX, PX ad) (fun r u1 => r = fr_day a1) 0 0 := by
  intro sz
  refine z_headQ (cc := cX11_day) (maxL := 2) (ret := (some .boolean)) (by decide) rfl (Nat.le_of_ble_eq_true rfl) ?_
  intro p e s m below meth c ls hIn hK hsz hW hl
  obtain ⟨hx, hb, hr, hml, hown, hts, hlocks, hname⟩ := hIn
  subst hsz
  have hown : s.vm.findClass RX11 = some m.cls := hown
  have hA : ∀ q : Nat, s.heap.size ≤ q → z_A (shX, ad, IX, JX, PX ad) s.heap.size q := fun q h => Or.inr h
  generalize hAe : z_A (shX, ad, IX, JX, PX ad) s.heap.size = A at *
  have hS : va_S A s.heap s.heap [] := va_S.rf
  have hl : lv_has ls 2 [(0, .ref (ad 0)), (1, .int a1)] := hl
  refine lv_iload_n hx hb dX11_day_0 rfl (lv_at hl 1 rfl) ?_
  refine lv_aload_n hx hb dX11_day_1 rfl (lv_at hl 0 rfl) ?_
  refine z_get (T := TX11) (N := 13) (ci := 11) (i := 0) (v := .int 0) hx hb hts zi_X11_day_X11 hown hK hW rfl rfl 0 (by decide) (hts (.fieldLink RX11 85 "PetrolBoard" "today" "I") (List.mem_of_getElem? (i := 1) rfl)) (fun _ h => h) rfl dX11_day_2 ?_
  refine lv_icmp_le (tgt := 15) hx hb dX11_day_5 (by decide) (fun c1 => ?_) (fun c1 => ?_)
  · refine lv_iconst (v := 0) hx hb dX11_day_15 (by decide) ?_
    exact z_zret hx hb hr (by decide) hK hS (Nat.le_of_ble_eq_true rfl) (Nat.le_of_ble_eq_true rfl) hlocks dX11_day_16 (shX, ad, IX, JX, PX ad) hW (by show _ = fr_day a1; unfold fr_day; split <;> first | rfl | (rename_i q; exfalso; simp only [Int32.lt_iff_toInt_lt, Int32.le_iff_toInt_le, ← Int32.toInt_inj, z_l0, z_l1, z_l719] at q c1; omega))
  · refine lv_iload_n hx hb dX11_day_8 rfl (lv_at hl 1 rfl) ?_
    refine lv_sipush (v := 720) hx hb dX11_day_9 (by decide) ?_
    refine lv_icmp_lt (tgt := 17) hx hb dX11_day_12 (by decide) (fun c2 => ?_) (fun c2 => ?_)
    · refine lv_aload_n hx hb dX11_day_17 rfl (lv_at hl 0 rfl) ?_
      refine lv_iload_n hx hb dX11_day_18 rfl (lv_at hl 1 rfl) ?_
      refine z_put (T := TX11) (N := 13) (ci := 11) (i := 0) (v := .int a1) (I1 := (z_up IX 0 0 a1)) (J1 := JX) (P1 := PX ad) hx hb hts zi_X11_day_X11 tyX11 tyX11_ok nmX11 hown hK hW hS rfl rfl 0 (by decide) (hts (.fieldLink RX11 85 "PetrolBoard" "today" "I") (List.mem_of_getElem? (i := 1) rfl)) (fun _ h => h) rfl rfl rfl (by first | rfl | exact congrArg _ z_up_s) (fun a b h ty => z_vI h ty) dX11_day_19 (fun H locs hz1 hW hS => ?_)
      refine lv_iconst (v := 1) hx hb dX11_day_22 (by decide) ?_
      exact z_zret hx hb hr (by decide) hK hS (Nat.le_of_ble_eq_true rfl) (Nat.le_of_ble_eq_true rfl) hlocks dX11_day_23 (shX, ad, (z_up IX 0 0 a1), JX, PX ad) hW (by show _ = fr_day a1; unfold fr_day; split <;> first | rfl | (rename_i q; exfalso; simp only [Int32.lt_iff_toInt_lt, Int32.le_iff_toInt_le, ← Int32.toInt_inj, z_l0, z_l1, z_l719, z_l720] at q c1 c2; omega))
    · refine lv_iconst (v := 0) hx hb dX11_day_15 (by decide) ?_
      exact z_zret hx hb hr (by decide) hK hS (Nat.le_of_ble_eq_true rfl) (Nat.le_of_ble_eq_true rfl) hlocks dX11_day_16 (shX, ad, IX, JX, PX ad) hW (by show _ = fr_day a1; unfold fr_day; split <;> first | rfl | (rename_i q; exfalso; simp only [Int32.lt_iff_toInt_lt, Int32.le_iff_toInt_le, ← Int32.toInt_inj, z_l0, z_l1, z_l719, z_l720] at q c1 c2; omega))
theorem zi_X11_fault_X11 : ∀ w ∈ wsX110, w ∈ wsX11_fault := fun w h => (List.mem_cons_of_mem _ (List.mem_append_right _ h))
set_option maxHeartbeats 4000000 in
set_option maxRecDepth 100000 in
theorem ct_X11_fault (l : Launch) (G : z_G) (ad : Nat → Nat) : z_M l yX11_fault wsX11_fault { frames := 1, cells := 0, slots := 0, locals := 12 } [.ref (ad 0)] G (shX, ad, IX, JX, PX ad) (fun r u1 => r = -1) 0 0 := by
  intro sz
  refine z_headQ (cc := cX11_fault) (maxL := 1) (ret := (some .int)) (by decide) rfl (Nat.le_of_ble_eq_true rfl) ?_
  intro p e s m below meth c ls hIn hK hsz hW hl
  obtain ⟨hx, hb, hr, hml, hown, hts, hlocks, hname⟩ := hIn
  subst hsz
  have hown : s.vm.findClass RX11 = some m.cls := hown
  have hA : ∀ q : Nat, s.heap.size ≤ q → z_A (shX, ad, IX, JX, PX ad) s.heap.size q := fun q h => Or.inr h
  generalize hAe : z_A (shX, ad, IX, JX, PX ad) s.heap.size = A at *
  have hS : va_S A s.heap s.heap [] := va_S.rf
  have hl : lv_has ls 1 [(0, .ref (ad 0))] := hl
  refine lv_aload_n hx hb dX11_fault_0 rfl (lv_at hl 0 rfl) ?_
  refine z_get (T := TX11) (N := 13) (ci := 11) (i := 0) (v := .int (-1)) hx hb hts zi_X11_fault_X11 hown hK hW rfl rfl 1 (by decide) (hts (.fieldLink RX11 9 "PetrolBoard" "faultPlace" "I") (List.mem_of_getElem? (i := 1) rfl)) (fun _ h => h) rfl dX11_fault_1 ?_
  exact z_iret hx hb hr hK hS (Nat.le_of_ble_eq_true rfl) (Nat.le_of_ble_eq_true rfl) hlocks dX11_fault_4 (shX, ad, IX, JX, PX ad) hW rfl
theorem zi_X11_level_X11 : ∀ w ∈ wsX110, w ∈ wsX11_level := fun w h => (List.mem_cons_of_mem _ (List.mem_append_right _ h))
set_option maxHeartbeats 4000000 in
set_option maxRecDepth 100000 in
theorem ct_X11_level (l : Launch) (G : z_G) (ad : Nat → Nat) (a1 : Int32) (a2 : Int32) : z_M l yX11_level wsX11_level { frames := 2, cells := 0, slots := 0, locals := 34 } [.ref (ad 0), .int a1, .int a2] G (shX, ad, IX, JX, PX ad) (fun r u1 => r = fr_level a1 a2) 0 0 := by
  intro sz
  refine z_headQ (cc := cX11_level) (maxL := 3) (ret := (some .boolean)) (by decide) rfl (Nat.le_of_ble_eq_true rfl) ?_
  intro p e s m below meth c ls hIn hK hsz hW hl
  obtain ⟨hx, hb, hr, hml, hown, hts, hlocks, hname⟩ := hIn
  subst hsz
  have hown : s.vm.findClass RX11 = some m.cls := hown
  have hA : ∀ q : Nat, s.heap.size ≤ q → z_A (shX, ad, IX, JX, PX ad) s.heap.size q := fun q h => Or.inr h
  generalize hAe : z_A (shX, ad, IX, JX, PX ad) s.heap.size = A at *
  have hS : va_S A s.heap s.heap [] := va_S.rf
  have hl : lv_has ls 3 [(0, .ref (ad 0)), (1, .int a1), (2, .int a2)] := hl
  refine lv_iload_n hx hb dX11_level_0 rfl (lv_at hl 1 rfl) ?_
  refine lv_if_lt (tgt := 24) hx hb dX11_level_1 (by decide) (fun c1 => ?_) (fun c1 => ?_)
  · refine lv_iconst (v := 0) hx hb dX11_level_24 (by decide) ?_
    exact z_zret hx hb hr (by decide) hK hS (Nat.le_of_ble_eq_true rfl) (Nat.le_of_ble_eq_true rfl) hlocks dX11_level_25 (shX, ad, IX, JX, PX ad) hW (by show _ = fr_level a1 a2; unfold fr_level; split <;> first | rfl | (rename_i q; exfalso; simp only [Int32.lt_iff_toInt_lt, Int32.le_iff_toInt_le, ← Int32.toInt_inj, z_l0, z_l1, z_l29, z_l300000] at q c1; omega))
  · refine lv_iload_n hx hb dX11_level_4 rfl (lv_at hl 1 rfl) ?_
    refine lv_aload_n hx hb dX11_level_5 rfl (lv_at hl 0 rfl) ?_
    refine z_get (T := TX11) (N := 13) (ci := 11) (i := 0) (v := .ref (ad 40)) hx hb hts zi_X11_level_X11 hown hK hW rfl rfl 9 (by decide) (hts (.fieldLink RX11 54 "PetrolBoard" "row" "[I") (List.mem_of_getElem? (i := 1) rfl)) (fun _ h => h) rfl dX11_level_6 ?_
    refine z_alen (i := 40) (v := 30) hx hb hK hW rfl (by simp [z_tys]) (by rfl) dX11_level_9 ?_
    refine lv_icmp_ge (tgt := 24) hx hb dX11_level_10 (by decide) (fun c2 => ?_) (fun c2 => ?_)
    · refine lv_iconst (v := 0) hx hb dX11_level_24 (by decide) ?_
      exact z_zret hx hb hr (by decide) hK hS (Nat.le_of_ble_eq_true rfl) (Nat.le_of_ble_eq_true rfl) hlocks dX11_level_25 (shX, ad, IX, JX, PX ad) hW (by show _ = fr_level a1 a2; unfold fr_level; split <;> first | rfl | (rename_i q; exfalso; simp only [Int32.lt_iff_toInt_lt, Int32.le_iff_toInt_le, ← Int32.toInt_inj, z_l0, z_l1, z_l29, z_l30, z_l300000] at q c1 c2; omega))
    · refine lv_iload_n hx hb dX11_level_13 rfl (lv_at hl 2 rfl) ?_
      refine lv_iconst (v := 0) hx hb dX11_level_14 (by decide) ?_
      refine lv_ldcw (v := 300000) hx hb hown (hts (.constant RX11 291 (300000)) (List.mem_of_getElem? (i := 2) rfl)) dX11_level_15 ?_
      refine z_ci hW hS hA (va_runS (As := [.int a2, .int 0, .int 300000]) (rest := []) ⟨hx, hb, hml, hown, hts⟩ (ct_X11_within l G (shX, ad, IX, JX, PX ad) a2 0 300000 _) (va_cwS 3 hts gX11_level_X11_within rfl rfl rfl (by decide +kernel) ⟨Nat.le_of_ble_eq_true rfl, Nat.le_of_ble_eq_true rfl⟩) (z_preS hK hW) rfl rfl hl.1 rfl (lv_room (Nat.le_of_ble_eq_true rfl)) dX11_level_18 ⟨Nat.le_of_ble_eq_true rfl, Nat.le_of_ble_eq_true rfl⟩) (fun r u1 H locs hp hW hS => ?_)
      obtain ⟨e9, hp⟩ := hp
      rw [e9] at hW
      rcases hp with ⟨rfl, h3, h4⟩ | ⟨rfl, h5⟩
      · refine lv_if_ne (tgt := 26) hx hb dX11_level_21 (by decide) (fun c6 => ?_) (fun c6 => absurd c6 (by decide))
        refine lv_aload_n hx hb dX11_level_26 rfl (lv_at hl 0 rfl) ?_
        refine z_get (T := TX11) (N := 13) (ci := 11) (i := 0) (v := .ref (ad 40)) hx hb hts zi_X11_level_X11 hown hK hW rfl rfl 9 (by decide) (hts (.fieldLink RX11 54 "PetrolBoard" "row" "[I") (List.mem_of_getElem? (i := 1) rfl)) (fun _ h => h) rfl dX11_level_27 ?_
        refine lv_iload_n hx hb dX11_level_30 rfl (lv_at hl 1 rfl) ?_
        refine lv_iload_n hx hb dX11_level_31 rfl (lv_at hl 2 rfl) ?_
        refine z_iast (i := 40) hx hb hK hW hS rfl (vp_in_iff.mpr (by simp only [Int32.lt_iff_toInt_lt, Int32.le_iff_toInt_le, ← Int32.toInt_inj, z_l0, z_l30] at c1 c2; constructor <;> omega)) dX11_level_32 (fun H locs hz1 hW hS => ?_)
        refine lv_iconst (v := 1) hx hb dX11_level_33 (by decide) ?_
        exact z_zret hx hb hr (by decide) hK hS (Nat.le_of_ble_eq_true rfl) (Nat.le_of_ble_eq_true rfl) hlocks dX11_level_34 (shX, ad, (z_up IX 40 a1.toNatClampNeg a2), JX, PX ad) hW (by show _ = fr_level a1 a2; unfold fr_level; split <;> first | rfl | (rename_i q; exfalso; simp only [Int32.lt_iff_toInt_lt, Int32.le_iff_toInt_le, ← Int32.toInt_inj, z_l0, z_l1, z_l29, z_l30, z_l300000] at q c1 c2 h3 h4; omega))
      · refine lv_if_ne (tgt := 26) hx hb dX11_level_21 (by decide) (fun c7 => absurd (by decide) c7) (fun c7 => ?_)
        refine lv_iconst (v := 0) hx hb dX11_level_24 (by decide) ?_
        exact z_zret hx hb hr (by decide) hK hS (Nat.le_of_ble_eq_true rfl) (Nat.le_of_ble_eq_true rfl) hlocks dX11_level_25 (shX, ad, IX, JX, PX ad) hW (by show _ = fr_level a1 a2; unfold fr_level; split <;> first | rfl | (rename_i q; exfalso; simp only [Int32.lt_iff_toInt_lt, Int32.le_iff_toInt_le, ← Int32.toInt_inj, z_l0, z_l1, z_l29, z_l30, z_l300000] at q c1 c2 h5 h5; omega))
theorem zi_X12_day_X12 : ∀ w ∈ wsX120, w ∈ wsX12_day := fun w h => (List.mem_cons_of_mem _ (List.mem_append_right _ h))
set_option maxHeartbeats 4000000 in
set_option maxRecDepth 100000 in
theorem ct_X12_day (l : Launch) (G : z_G) (ad : Nat → Nat) (a1 : Int32) : z_M l yX12_day wsX12_day { frames := 1, cells := 0, slots := 0, locals := 12 } [.ref (ad 0), .int a1] G (shM, ad, IM, JM, PM ad) (fun r u1 => r = fr_day a1) 0 0 := by
  intro sz
  refine z_headQ (cc := cX12_day) (maxL := 2) (ret := (some .boolean)) (by decide) rfl (Nat.le_of_ble_eq_true rfl) ?_
  intro p e s m below meth c ls hIn hK hsz hW hl
  obtain ⟨hx, hb, hr, hml, hown, hts, hlocks, hname⟩ := hIn
  subst hsz
  have hown : s.vm.findClass RX12 = some m.cls := hown
  have hA : ∀ q : Nat, s.heap.size ≤ q → z_A (shM, ad, IM, JM, PM ad) s.heap.size q := fun q h => Or.inr h
  generalize hAe : z_A (shM, ad, IM, JM, PM ad) s.heap.size = A at *
  have hS : va_S A s.heap s.heap [] := va_S.rf
  have hl : lv_has ls 2 [(0, .ref (ad 0)), (1, .int a1)] := hl
  refine lv_iload_n hx hb dX12_day_0 rfl (lv_at hl 1 rfl) ?_
  refine lv_aload_n hx hb dX12_day_1 rfl (lv_at hl 0 rfl) ?_
  refine z_get (T := TX12) (N := 96) (ci := 12) (i := 0) (v := .int 0) hx hb hts zi_X12_day_X12 hown hK hW rfl rfl 0 (by decide) (hts (.fieldLink RX12 232 "PetrolBoardModel" "today" "I") (List.mem_of_getElem? (i := 1) rfl)) (fun _ h => h) rfl dX12_day_2 ?_
  refine lv_icmp_le (tgt := 15) hx hb dX12_day_5 (by decide) (fun c1 => ?_) (fun c1 => ?_)
  · refine lv_iconst (v := 0) hx hb dX12_day_15 (by decide) ?_
    exact z_zret hx hb hr (by decide) hK hS (Nat.le_of_ble_eq_true rfl) (Nat.le_of_ble_eq_true rfl) hlocks dX12_day_16 (shM, ad, IM, JM, PM ad) hW (by show _ = fr_day a1; unfold fr_day; split <;> first | rfl | (rename_i q; exfalso; simp only [Int32.lt_iff_toInt_lt, Int32.le_iff_toInt_le, ← Int32.toInt_inj, z_l0, z_l1, z_l719] at q c1; omega))
  · refine lv_iload_n hx hb dX12_day_8 rfl (lv_at hl 1 rfl) ?_
    refine lv_sipush (v := 719) hx hb dX12_day_9 (by decide) ?_
    refine lv_icmp_le (tgt := 17) hx hb dX12_day_12 (by decide) (fun c2 => ?_) (fun c2 => ?_)
    · refine lv_aload_n hx hb dX12_day_17 rfl (lv_at hl 0 rfl) ?_
      refine lv_iload_n hx hb dX12_day_18 rfl (lv_at hl 1 rfl) ?_
      refine z_put (T := TX12) (N := 96) (ci := 12) (i := 0) (v := .int a1) (I1 := (z_up IM 0 0 a1)) (J1 := JM) (P1 := PM ad) hx hb hts zi_X12_day_X12 tyX12 tyX12_ok nmX12 hown hK hW hS rfl rfl 0 (by decide) (hts (.fieldLink RX12 232 "PetrolBoardModel" "today" "I") (List.mem_of_getElem? (i := 1) rfl)) (fun _ h => h) rfl rfl rfl (by first | rfl | exact congrArg _ z_up_s) (fun a b h ty => z_vI h ty) dX12_day_19 (fun H locs hz1 hW hS => ?_)
      refine lv_iconst (v := 1) hx hb dX12_day_22 (by decide) ?_
      exact z_zret hx hb hr (by decide) hK hS (Nat.le_of_ble_eq_true rfl) (Nat.le_of_ble_eq_true rfl) hlocks dX12_day_23 (shM, ad, (z_up IM 0 0 a1), JM, PM ad) hW (by show _ = fr_day a1; unfold fr_day; split <;> first | rfl | (rename_i q; exfalso; simp only [Int32.lt_iff_toInt_lt, Int32.le_iff_toInt_le, ← Int32.toInt_inj, z_l0, z_l1, z_l719] at q c1 c2; omega))
    · refine lv_iconst (v := 0) hx hb dX12_day_15 (by decide) ?_
      exact z_zret hx hb hr (by decide) hK hS (Nat.le_of_ble_eq_true rfl) (Nat.le_of_ble_eq_true rfl) hlocks dX12_day_16 (shM, ad, IM, JM, PM ad) hW (by show _ = fr_day a1; unfold fr_day; split <;> first | rfl | (rename_i q; exfalso; simp only [Int32.lt_iff_toInt_lt, Int32.le_iff_toInt_le, ← Int32.toInt_inj, z_l0, z_l1, z_l719] at q c1 c2; omega))
theorem zi_X12_fault_X12 : ∀ w ∈ wsX120, w ∈ wsX12_fault := fun w h => (List.mem_cons_of_mem _ (List.mem_append_right _ h))
set_option maxHeartbeats 4000000 in
set_option maxRecDepth 100000 in
theorem ct_X12_fault (l : Launch) (G : z_G) (ad : Nat → Nat) : z_M l yX12_fault wsX12_fault { frames := 1, cells := 0, slots := 0, locals := 12 } [.ref (ad 0)] G (shM, ad, IM, JM, PM ad) (fun r u1 => r = -1) 0 0 := by
  intro sz
  refine z_headQ (cc := cX12_fault) (maxL := 1) (ret := (some .int)) (by decide) rfl (Nat.le_of_ble_eq_true rfl) ?_
  intro p e s m below meth c ls hIn hK hsz hW hl
  obtain ⟨hx, hb, hr, hml, hown, hts, hlocks, hname⟩ := hIn
  subst hsz
  have hown : s.vm.findClass RX12 = some m.cls := hown
  have hA : ∀ q : Nat, s.heap.size ≤ q → z_A (shM, ad, IM, JM, PM ad) s.heap.size q := fun q h => Or.inr h
  generalize hAe : z_A (shM, ad, IM, JM, PM ad) s.heap.size = A at *
  have hS : va_S A s.heap s.heap [] := va_S.rf
  have hl : lv_has ls 1 [(0, .ref (ad 0))] := hl
  refine lv_aload_n hx hb dX12_fault_0 rfl (lv_at hl 0 rfl) ?_
  refine z_get (T := TX12) (N := 96) (ci := 12) (i := 0) (v := .int (-1)) hx hb hts zi_X12_fault_X12 hown hK hW rfl rfl 32 (by decide) (hts (.fieldLink RX12 87 "PetrolBoardModel" "faultAt" "I") (List.mem_of_getElem? (i := 1) rfl)) (fun _ h => h) rfl dX12_fault_1 ?_
  exact z_iret hx hb hr hK hS (Nat.le_of_ble_eq_true rfl) (Nat.le_of_ble_eq_true rfl) hlocks dX12_fault_4 (shM, ad, IM, JM, PM ad) hW rfl
theorem zi_X12_level_X12 : ∀ w ∈ wsX120, w ∈ wsX12_level := fun w h => (List.mem_cons_of_mem _ (List.mem_append_right _ h))
set_option maxHeartbeats 4000000 in
set_option maxRecDepth 100000 in
theorem ct_X12_level (l : Launch) (G : z_G) (ad : Nat → Nat) (a1 : Int32) (a2 : Int32) : z_M l yX12_level wsX12_level { frames := 2, cells := 0, slots := 0, locals := 34 } [.ref (ad 0), .int a1, .int a2] G (shM, ad, IM, JM, PM ad) (fun r u1 => r = fr_level a1 a2) 0 0 := by
  intro sz
  refine z_headQ (cc := cX12_level) (maxL := 3) (ret := (some .boolean)) (by decide) rfl (Nat.le_of_ble_eq_true rfl) ?_
  intro p e s m below meth c ls hIn hK hsz hW hl
  obtain ⟨hx, hb, hr, hml, hown, hts, hlocks, hname⟩ := hIn
  subst hsz
  have hown : s.vm.findClass RX12 = some m.cls := hown
  have hA : ∀ q : Nat, s.heap.size ≤ q → z_A (shM, ad, IM, JM, PM ad) s.heap.size q := fun q h => Or.inr h
  generalize hAe : z_A (shM, ad, IM, JM, PM ad) s.heap.size = A at *
  have hS : va_S A s.heap s.heap [] := va_S.rf
  have hl : lv_has ls 3 [(0, .ref (ad 0)), (1, .int a1), (2, .int a2)] := hl
  refine lv_iload_n hx hb dX12_level_0 rfl (lv_at hl 1 rfl) ?_
  refine lv_iconst (v := 0) hx hb dX12_level_1 (by decide) ?_
  refine lv_bipush (v := 29) hx hb dX12_level_2 (by decide) ?_
  refine z_ci hW hS hA (va_runS (As := [.int a1, .int 0, .int 29]) (rest := []) ⟨hx, hb, hml, hown, hts⟩ (ct_X12_within l G (shM, ad, IM, JM, PM ad) a1 0 29 _) (va_cwS 3 hts gX12_level_X12_within rfl rfl rfl (by decide +kernel) ⟨Nat.le_of_ble_eq_true rfl, Nat.le_of_ble_eq_true rfl⟩) (z_preS hK hW) rfl rfl hl.1 rfl (lv_room (Nat.le_of_ble_eq_true rfl)) dX12_level_4 ⟨Nat.le_of_ble_eq_true rfl, Nat.le_of_ble_eq_true rfl⟩) (fun r u1 H locs hp hW hS => ?_)
  obtain ⟨e9, hp⟩ := hp
  rw [e9] at hW
  rcases hp with ⟨rfl, h1, h2⟩ | ⟨rfl, h3⟩
  · refine lv_if_eq (tgt := 21) hx hb dX12_level_7 (by decide) (fun c4 => absurd c4 (by decide)) (fun c4 => ?_)
    refine lv_iload_n hx hb dX12_level_10 rfl (lv_at hl 2 rfl) ?_
    refine lv_iconst (v := 0) hx hb dX12_level_11 (by decide) ?_
    refine lv_ldcw (v := 300000) hx hb hown (hts (.constant RX12 492 (300000)) (List.mem_of_getElem? (i := 1) rfl)) dX12_level_12 ?_
    refine z_ci hW hS hA (va_runS (As := [.int a2, .int 0, .int 300000]) (rest := []) ⟨hx, hb, hml, hown, hts⟩ (ct_X12_within l G (shM, ad, IM, JM, PM ad) a2 0 300000 _) (va_cwS 3 hts gX12_level_X12_within rfl rfl rfl (by decide +kernel) ⟨Nat.le_of_ble_eq_true rfl, Nat.le_of_ble_eq_true rfl⟩) (z_preS hK hW) rfl rfl hl.1 rfl (lv_room (Nat.le_of_ble_eq_true rfl)) dX12_level_15 ⟨Nat.le_of_ble_eq_true rfl, Nat.le_of_ble_eq_true rfl⟩) (fun r u1 H locs hp hW hS => ?_)
    obtain ⟨e9, hp⟩ := hp
    rw [e9] at hW
    rcases hp with ⟨rfl, h5, h6⟩ | ⟨rfl, h7⟩
    · refine lv_if_ne (tgt := 23) hx hb dX12_level_18 (by decide) (fun c8 => ?_) (fun c8 => absurd c8 (by decide))
      refine lv_aload_n hx hb dX12_level_23 rfl (lv_at hl 0 rfl) ?_
      refine z_get (T := TX12) (N := 96) (ci := 12) (i := 0) (v := .ref (ad 51)) hx hb hts zi_X12_level_X12 hown hK hW rfl rfl 74 (by decide) (hts (.fieldLink RX12 169 "PetrolBoardModel" "levels" "[I") (List.mem_of_getElem? (i := 2) rfl)) (fun _ h => h) rfl dX12_level_24 ?_
      refine lv_iload_n hx hb dX12_level_27 rfl (lv_at hl 1 rfl) ?_
      refine lv_iload_n hx hb dX12_level_28 rfl (lv_at hl 2 rfl) ?_
      refine z_iast (i := 51) hx hb hK hW hS rfl (vp_in_iff.mpr (by simp only [Int32.lt_iff_toInt_lt, Int32.le_iff_toInt_le, ← Int32.toInt_inj, z_l0, z_l29, z_l30] at h1 h2; constructor <;> omega)) dX12_level_29 (fun H locs hz1 hW hS => ?_)
      refine lv_iconst (v := 1) hx hb dX12_level_30 (by decide) ?_
      exact z_zret hx hb hr (by decide) hK hS (Nat.le_of_ble_eq_true rfl) (Nat.le_of_ble_eq_true rfl) hlocks dX12_level_31 (shM, ad, (z_up IM 51 a1.toNatClampNeg a2), JM, PM ad) hW (by show _ = fr_level a1 a2; unfold fr_level; split <;> first | rfl | (rename_i q; exfalso; simp only [Int32.lt_iff_toInt_lt, Int32.le_iff_toInt_le, ← Int32.toInt_inj, z_l0, z_l1, z_l29, z_l300000] at q h1 h2 h5 h6; omega))
    · refine lv_if_ne (tgt := 23) hx hb dX12_level_18 (by decide) (fun c9 => absurd (by decide) c9) (fun c9 => ?_)
      refine lv_iconst (v := 0) hx hb dX12_level_21 (by decide) ?_
      exact z_zret hx hb hr (by decide) hK hS (Nat.le_of_ble_eq_true rfl) (Nat.le_of_ble_eq_true rfl) hlocks dX12_level_22 (shM, ad, IM, JM, PM ad) hW (by show _ = fr_level a1 a2; unfold fr_level; split <;> first | rfl | (rename_i q; exfalso; simp only [Int32.lt_iff_toInt_lt, Int32.le_iff_toInt_le, ← Int32.toInt_inj, z_l0, z_l1, z_l29, z_l300000] at q h1 h2 h7 h7; omega))
  · refine lv_if_eq (tgt := 21) hx hb dX12_level_7 (by decide) (fun c10 => ?_) (fun c10 => absurd (by decide) c10)
    refine lv_iconst (v := 0) hx hb dX12_level_21 (by decide) ?_
    exact z_zret hx hb hr (by decide) hK hS (Nat.le_of_ble_eq_true rfl) (Nat.le_of_ble_eq_true rfl) hlocks dX12_level_22 (shM, ad, IM, JM, PM ad) hW (by show _ = fr_level a1 a2; unfold fr_level; split <;> first | rfl | (rename_i q; exfalso; simp only [Int32.lt_iff_toInt_lt, Int32.le_iff_toInt_le, ← Int32.toInt_inj, z_l0, z_l1, z_l29, z_l300000] at q h3 h3; omega))
theorem zi_X4_addPort_X4 : ∀ w ∈ wsX40, w ∈ wsX4_addPort := fun w h => (List.mem_cons_of_mem _ (List.mem_append_right _ h))
set_option maxHeartbeats 4000000 in
set_option maxRecDepth 100000 in
theorem ct_X4_addPort (l : Launch) (G : z_G) (ad : Nat → Nat) (a1 : Int32) : z_M l yX4_addPort wsX4_addPort { frames := 1, cells := 0, slots := 0, locals := 12 } [.ref (ad 41), .int a1] G (shX, ad, IX, JX, PX ad) (fun r u1 => r = 0) 0 0 := by
  intro sz
  refine z_headQ (cc := cX4_addPort) (maxL := 2) (ret := (some .int)) (by decide) rfl (Nat.le_of_ble_eq_true rfl) ?_
  intro p e s m below meth c ls hIn hK hsz hW hl
  obtain ⟨hx, hb, hr, hml, hown, hts, hlocks, hname⟩ := hIn
  subst hsz
  have hown : s.vm.findClass RX4 = some m.cls := hown
  have hA : ∀ q : Nat, s.heap.size ≤ q → z_A (shX, ad, IX, JX, PX ad) s.heap.size q := fun q h => Or.inr h
  generalize hAe : z_A (shX, ad, IX, JX, PX ad) s.heap.size = A at *
  have hS : va_S A s.heap s.heap [] := va_S.rf
  have hl : lv_has ls 2 [(0, .ref (ad 41)), (1, .int a1)] := hl
  refine lv_aload_n hx hb dX4_addPort_0 rfl (lv_at hl 0 rfl) ?_
  refine z_get (T := TX4) (N := 13) (ci := 4) (i := 41) (v := .int 0) hx hb hts zi_X4_addPort_X4 hown hK hW rfl rfl 10 (by decide) (hts (.fieldLink RX4 44 "PetrolBoard$Loads" "ports" "I") (List.mem_of_getElem? (i := 1) rfl)) (fun _ h => h) rfl dX4_addPort_1 ?_
  refine lv_iconst (v := 4) hx hb dX4_addPort_4 (by decide) ?_
  refine lv_icmp_lt (tgt := 10) hx hb dX4_addPort_5 (by decide) (fun c1 => ?_) (fun c1 => absurd (by decide) c1)
  refine lv_aload_n hx hb dX4_addPort_10 rfl (lv_at hl 0 rfl) ?_
  refine z_get (T := TX4) (N := 13) (ci := 4) (i := 41) (v := .ref (ad 42)) hx hb hts zi_X4_addPort_X4 hown hK hW rfl rfl 0 (by decide) (hts (.fieldLink RX4 9 "PetrolBoard$Loads" "inPort" "[I") (List.mem_of_getElem? (i := 2) rfl)) (fun _ h => h) rfl dX4_addPort_11 ?_
  refine lv_aload_n hx hb dX4_addPort_14 rfl (lv_at hl 0 rfl) ?_
  refine z_get (T := TX4) (N := 13) (ci := 4) (i := 41) (v := .int 0) hx hb hts zi_X4_addPort_X4 hown hK hW rfl rfl 10 (by decide) (hts (.fieldLink RX4 44 "PetrolBoard$Loads" "ports" "I") (List.mem_of_getElem? (i := 1) rfl)) (fun _ h => h) rfl dX4_addPort_15 ?_
  refine lv_iload_n hx hb dX4_addPort_18 rfl (lv_at hl 1 rfl) ?_
  refine z_iast (i := 42) hx hb hK hW hS rfl (z_inl (by decide)) dX4_addPort_19 (fun H locs hz1 hW hS => ?_)
  refine lv_aload_n hx hb dX4_addPort_20 rfl (lv_at hl 0 rfl) ?_
  refine lv_dup hx hb dX4_addPort_21 rfl ?_
  refine z_get (T := TX4) (N := 13) (ci := 4) (i := 41) (v := .int 0) hx hb hts zi_X4_addPort_X4 hown hK hW rfl rfl 10 (by decide) (hts (.fieldLink RX4 44 "PetrolBoard$Loads" "ports" "I") (List.mem_of_getElem? (i := 1) rfl)) (fun _ h => h) rfl dX4_addPort_22 ?_
  refine lv_iconst (v := 1) hx hb dX4_addPort_25 (by decide) ?_
  refine lv_iadd hx hb dX4_addPort_26 ?_
  refine z_topi (v := 1) (by decide) ?_
  refine z_put (T := TX4) (N := 13) (ci := 4) (i := 41) (v := .int 1) (I1 := (z_up (z_up IX 42 (0 : Int32).toNatClampNeg a1) 41 10 1)) (J1 := JX) (P1 := PX ad) hx hb hts zi_X4_addPort_X4 tyX4 tyX4_ok nmX4 hown hK hW hS rfl rfl 10 (by decide) (hts (.fieldLink RX4 44 "PetrolBoard$Loads" "ports" "I") (List.mem_of_getElem? (i := 1) rfl)) (fun _ h => h) rfl rfl rfl (by first | rfl | exact congrArg _ z_up_s) (fun a b h ty => z_vI h ty) dX4_addPort_27 (fun H locs hz1 hW hS => ?_)
  refine lv_aload_n hx hb dX4_addPort_30 rfl (lv_at hl 0 rfl) ?_
  refine z_get (T := TX4) (N := 13) (ci := 4) (i := 41) (v := .int 1) hx hb hts zi_X4_addPort_X4 hown hK hW rfl rfl 10 (by decide) (hts (.fieldLink RX4 44 "PetrolBoard$Loads" "ports" "I") (List.mem_of_getElem? (i := 1) rfl)) (fun _ h => h) rfl dX4_addPort_31 ?_
  refine lv_iconst (v := 1) hx hb dX4_addPort_34 (by decide) ?_
  refine lv_isub hx hb dX4_addPort_35 ?_
  refine z_topi (v := 0) (by decide) ?_
  exact z_iret hx hb hr hK hS (Nat.le_of_ble_eq_true rfl) (Nat.le_of_ble_eq_true rfl) hlocks dX4_addPort_36 (shX, ad, (z_up (z_up IX 42 (0 : Int32).toNatClampNeg a1) 41 10 1), JX, PX ad) hW rfl
theorem zi_X2_add_X2 : ∀ w ∈ wsX20, w ∈ wsX2_add := fun w h => (List.mem_cons_of_mem _ (List.mem_append_right _ h))
set_option maxHeartbeats 4000000 in
set_option maxRecDepth 100000 in
theorem ct_X2_add (l : Launch) (G : z_G) (ad : Nat → Nat) (a1 : Int32) (a2 : Int32) (a3 : Int32) (a4 : Int32) (a5 : Int32) : z_M l yX2_add wsX2_add { frames := 1, cells := 0, slots := 0, locals := 12 } [.ref (ad 1), .int a1, .int a2, .int a3, .int a4, .int a5] G (shX, ad, IX, JX, PX ad) (fun r u1 => r = 0) 0 0 := by
  intro sz
  refine z_headQ (cc := cX2_add) (maxL := 6) (ret := (some .int)) (by decide) rfl (Nat.le_of_ble_eq_true rfl) ?_
  intro p e s m below meth c ls hIn hK hsz hW hl
  obtain ⟨hx, hb, hr, hml, hown, hts, hlocks, hname⟩ := hIn
  subst hsz
  have hown : s.vm.findClass RX2 = some m.cls := hown
  have hA : ∀ q : Nat, s.heap.size ≤ q → z_A (shX, ad, IX, JX, PX ad) s.heap.size q := fun q h => Or.inr h
  generalize hAe : z_A (shX, ad, IX, JX, PX ad) s.heap.size = A at *
  have hS : va_S A s.heap s.heap [] := va_S.rf
  have hl : lv_has ls 6 [(0, .ref (ad 1)), (1, .int a1), (2, .int a2), (3, .int a3), (4, .int a4), (5, .int a5)] := hl
  refine lv_aload_n hx hb dX2_add_0 rfl (lv_at hl 0 rfl) ?_
  refine z_get (T := TX2) (N := 12) (ci := 2) (i := 1) (v := .int 0) hx hb hts zi_X2_add_X2 hown hK hW rfl rfl 5 (by decide) (hts (.fieldLink RX2 42 "PetrolBoard$Holders" "number" "I") (List.mem_of_getElem? (i := 1) rfl)) (fun _ h => h) rfl dX2_add_1 ?_
  refine lv_bipush (v := 30) hx hb dX2_add_4 (by decide) ?_
  refine lv_icmp_lt (tgt := 11) hx hb dX2_add_6 (by decide) (fun c1 => ?_) (fun c1 => absurd (by decide) c1)
  refine lv_aload_n hx hb dX2_add_11 rfl (lv_at hl 0 rfl) ?_
  refine z_get (T := TX2) (N := 12) (ci := 2) (i := 1) (v := .ref (ad 2)) hx hb hts zi_X2_add_X2 hown hK hW rfl rfl 0 (by decide) (hts (.fieldLink RX2 9 "PetrolBoard$Holders" "size" "[I") (List.mem_of_getElem? (i := 2) rfl)) (fun _ h => h) rfl dX2_add_12 ?_
  refine lv_aload_n hx hb dX2_add_15 rfl (lv_at hl 0 rfl) ?_
  refine z_get (T := TX2) (N := 12) (ci := 2) (i := 1) (v := .int 0) hx hb hts zi_X2_add_X2 hown hK hW rfl rfl 5 (by decide) (hts (.fieldLink RX2 42 "PetrolBoard$Holders" "number" "I") (List.mem_of_getElem? (i := 1) rfl)) (fun _ h => h) rfl dX2_add_16 ?_
  refine lv_iload_n hx hb dX2_add_19 rfl (lv_at hl 1 rfl) ?_
  refine z_iast (i := 2) hx hb hK hW hS rfl (z_inl (by decide)) dX2_add_20 (fun H locs hz1 hW hS => ?_)
  refine lv_aload_n hx hb dX2_add_21 rfl (lv_at hl 0 rfl) ?_
  refine z_get (T := TX2) (N := 12) (ci := 2) (i := 1) (v := .ref (ad 3)) hx hb hts zi_X2_add_X2 hown hK hW rfl rfl 1 (by decide) (hts (.fieldLink RX2 15 "PetrolBoard$Holders" "town" "[I") (List.mem_of_getElem? (i := 3) rfl)) (fun _ h => h) rfl dX2_add_22 ?_
  refine lv_aload_n hx hb dX2_add_25 rfl (lv_at hl 0 rfl) ?_
  refine z_get (T := TX2) (N := 12) (ci := 2) (i := 1) (v := .int 0) hx hb hts zi_X2_add_X2 hown hK hW rfl rfl 5 (by decide) (hts (.fieldLink RX2 42 "PetrolBoard$Holders" "number" "I") (List.mem_of_getElem? (i := 1) rfl)) (fun _ h => h) rfl dX2_add_26 ?_
  refine lv_iload_n hx hb dX2_add_29 rfl (lv_at hl 2 rfl) ?_
  refine z_iast (i := 3) hx hb hK hW hS rfl (z_inl (by decide)) dX2_add_30 (fun H locs hz1 hW hS => ?_)
  refine lv_aload_n hx hb dX2_add_31 rfl (lv_at hl 0 rfl) ?_
  refine z_get (T := TX2) (N := 12) (ci := 2) (i := 1) (v := .ref (ad 4)) hx hb hts zi_X2_add_X2 hown hK hW rfl rfl 2 (by decide) (hts (.fieldLink RX2 18 "PetrolBoard$Holders" "seats" "[I") (List.mem_of_getElem? (i := 4) rfl)) (fun _ h => h) rfl dX2_add_32 ?_
  refine lv_aload_n hx hb dX2_add_35 rfl (lv_at hl 0 rfl) ?_
  refine z_get (T := TX2) (N := 12) (ci := 2) (i := 1) (v := .int 0) hx hb hts zi_X2_add_X2 hown hK hW rfl rfl 5 (by decide) (hts (.fieldLink RX2 42 "PetrolBoard$Holders" "number" "I") (List.mem_of_getElem? (i := 1) rfl)) (fun _ h => h) rfl dX2_add_36 ?_
  refine lv_iload_n hx hb dX2_add_39 rfl (lv_at hl 3 rfl) ?_
  refine z_iast (i := 4) hx hb hK hW hS rfl (z_inl (by decide)) dX2_add_40 (fun H locs hz1 hW hS => ?_)
  refine lv_aload_n hx hb dX2_add_41 rfl (lv_at hl 0 rfl) ?_
  refine z_get (T := TX2) (N := 12) (ci := 2) (i := 1) (v := .ref (ad 5)) hx hb hts zi_X2_add_X2 hown hK hW rfl rfl 3 (by decide) (hts (.fieldLink RX2 21 "PetrolBoard$Holders" "bid" "[I") (List.mem_of_getElem? (i := 5) rfl)) (fun _ h => h) rfl dX2_add_42 ?_
  refine lv_aload_n hx hb dX2_add_45 rfl (lv_at hl 0 rfl) ?_
  refine z_get (T := TX2) (N := 12) (ci := 2) (i := 1) (v := .int 0) hx hb hts zi_X2_add_X2 hown hK hW rfl rfl 5 (by decide) (hts (.fieldLink RX2 42 "PetrolBoard$Holders" "number" "I") (List.mem_of_getElem? (i := 1) rfl)) (fun _ h => h) rfl dX2_add_46 ?_
  refine lv_iload hx hb dX2_add_49 (lv_at hl 4 rfl) ?_
  refine z_iast (i := 5) hx hb hK hW hS rfl (z_inl (by decide)) dX2_add_51 (fun H locs hz1 hW hS => ?_)
  refine lv_aload_n hx hb dX2_add_52 rfl (lv_at hl 0 rfl) ?_
  refine z_get (T := TX2) (N := 12) (ci := 2) (i := 1) (v := .ref (ad 6)) hx hb hts zi_X2_add_X2 hown hK hW rfl rfl 4 (by decide) (hts (.fieldLink RX2 24 "PetrolBoard$Holders" "need" "[I") (List.mem_of_getElem? (i := 6) rfl)) (fun _ h => h) rfl dX2_add_53 ?_
  refine lv_aload_n hx hb dX2_add_56 rfl (lv_at hl 0 rfl) ?_
  refine z_get (T := TX2) (N := 12) (ci := 2) (i := 1) (v := .int 0) hx hb hts zi_X2_add_X2 hown hK hW rfl rfl 5 (by decide) (hts (.fieldLink RX2 42 "PetrolBoard$Holders" "number" "I") (List.mem_of_getElem? (i := 1) rfl)) (fun _ h => h) rfl dX2_add_57 ?_
  refine lv_iload hx hb dX2_add_60 (lv_at hl 5 rfl) ?_
  refine z_iast (i := 6) hx hb hK hW hS rfl (z_inl (by decide)) dX2_add_62 (fun H locs hz1 hW hS => ?_)
  refine lv_aload_n hx hb dX2_add_63 rfl (lv_at hl 0 rfl) ?_
  refine lv_dup hx hb dX2_add_64 rfl ?_
  refine z_get (T := TX2) (N := 12) (ci := 2) (i := 1) (v := .int 0) hx hb hts zi_X2_add_X2 hown hK hW rfl rfl 5 (by decide) (hts (.fieldLink RX2 42 "PetrolBoard$Holders" "number" "I") (List.mem_of_getElem? (i := 1) rfl)) (fun _ h => h) rfl dX2_add_65 ?_
  refine lv_iconst (v := 1) hx hb dX2_add_68 (by decide) ?_
  refine lv_iadd hx hb dX2_add_69 ?_
  refine z_topi (v := 1) (by decide) ?_
  refine z_put (T := TX2) (N := 12) (ci := 2) (i := 1) (v := .int 1) (I1 := (z_up (z_up (z_up (z_up (z_up (z_up IX 2 (0 : Int32).toNatClampNeg a1) 3 (0 : Int32).toNatClampNeg a2) 4 (0 : Int32).toNatClampNeg a3) 5 (0 : Int32).toNatClampNeg a4) 6 (0 : Int32).toNatClampNeg a5) 1 5 1)) (J1 := JX) (P1 := PX ad) hx hb hts zi_X2_add_X2 tyX2 tyX2_ok nmX2 hown hK hW hS rfl rfl 5 (by decide) (hts (.fieldLink RX2 42 "PetrolBoard$Holders" "number" "I") (List.mem_of_getElem? (i := 1) rfl)) (fun _ h => h) rfl rfl rfl (by first | rfl | exact congrArg _ z_up_s) (fun a b h ty => z_vI h ty) dX2_add_70 (fun H locs hz1 hW hS => ?_)
  refine lv_aload_n hx hb dX2_add_73 rfl (lv_at hl 0 rfl) ?_
  refine z_get (T := TX2) (N := 12) (ci := 2) (i := 1) (v := .int 1) hx hb hts zi_X2_add_X2 hown hK hW rfl rfl 5 (by decide) (hts (.fieldLink RX2 42 "PetrolBoard$Holders" "number" "I") (List.mem_of_getElem? (i := 1) rfl)) (fun _ h => h) rfl dX2_add_74 ?_
  refine lv_iconst (v := 1) hx hb dX2_add_77 (by decide) ?_
  refine lv_isub hx hb dX2_add_78 ?_
  refine z_topi (v := 0) (by decide) ?_
  exact z_iret hx hb hr hK hS (Nat.le_of_ble_eq_true rfl) (Nat.le_of_ble_eq_true rfl) hlocks dX2_add_79 (shX, ad, (z_up (z_up (z_up (z_up (z_up (z_up IX 2 (0 : Int32).toNatClampNeg a1) 3 (0 : Int32).toNatClampNeg a2) 4 (0 : Int32).toNatClampNeg a3) 5 (0 : Int32).toNatClampNeg a4) 6 (0 : Int32).toNatClampNeg a5) 1 5 1), JX, PX ad) hW rfl
theorem zi_X8_judgedGood_X8 : ∀ w ∈ wsX80, w ∈ wsX8_judgedGood := fun w h => (List.mem_cons_of_mem _ (List.mem_append_right _ h))
set_option maxHeartbeats 4000000 in
set_option maxRecDepth 100000 in
theorem ct_X8_judgedGood (l : Launch) (G : z_G) (ad : Nat → Nat) : z_M l yX8_judgedGood wsX8_judgedGood { frames := 1, cells := 0, slots := 0, locals := 12 } [.ref (ad 30)] G (shX, ad, IX, JX, PX ad) (fun r u1 => u1 = (shX, ad, IX, JX, PX ad) ∧ r = 0) 0 0 := by
  intro sz
  refine z_headQ (cc := cX8_judgedGood) (maxL := 3) (ret := (some .int)) (by decide) rfl (Nat.le_of_ble_eq_true rfl) ?_
  intro p e s m below meth c ls hIn hK hsz hW hl
  obtain ⟨hx, hb, hr, hml, hown, hts, hlocks, hname⟩ := hIn
  subst hsz
  have hown : s.vm.findClass RX8 = some m.cls := hown
  have hA : ∀ q : Nat, s.heap.size ≤ q → z_A (shX, ad, IX, JX, PX ad) s.heap.size q := fun q h => Or.inr h
  generalize hAe : z_A (shX, ad, IX, JX, PX ad) s.heap.size = A at *
  have hS : va_S A s.heap s.heap [] := va_S.rf
  have hl : lv_has ls 3 [(0, .ref (ad 30))] := hl
  refine lv_iconst (v := 0) hx hb dX8_judgedGood_0 (by decide) ?_
  refine lv_istore_n (lv' := [(1, .int 0), (0, .ref (ad 30))]) hx hb dX8_judgedGood_1 rfl hl (by decide) rfl (fun ls hl => ?_)
  refine lv_iconst (v := 0) hx hb dX8_judgedGood_2 (by decide) ?_
  refine lv_istore_n (lv' := [(2, .int 0), (1, .int 0), (0, .ref (ad 30))]) hx hb dX8_judgedGood_3 rfl hl (by decide) rfl (fun ls hl => ?_)
  refine lv_iload_n hx hb dX8_judgedGood_4 rfl (lv_at hl 0 rfl) ?_
  refine lv_aload_n hx hb dX8_judgedGood_5 rfl (lv_at hl 2 rfl) ?_
  refine z_get (T := TX8) (N := 9) (ci := 8) (i := 30) (v := .int 0) hx hb hts zi_X8_judgedGood_X8 hown hK hW rfl rfl 8 (by decide) (hts (.fieldLink RX8 36 "PetrolBoard$Pours" "number" "I") (List.mem_of_getElem? (i := 1) rfl)) (fun _ h => h) rfl dX8_judgedGood_6 ?_
  refine lv_icmp_ge (tgt := 42) hx hb dX8_judgedGood_9 (by decide) (fun c1 => ?_) (fun c1 => absurd (by decide) c1)
  refine lv_iload_n hx hb dX8_judgedGood_42 rfl (lv_at hl 1 rfl) ?_
  exact z_iret hx hb hr hK hS (Nat.le_of_ble_eq_true rfl) (Nat.le_of_ble_eq_true rfl) hlocks dX8_judgedGood_43 (shX, ad, IX, JX, PX ad) hW ⟨rfl, rfl⟩
theorem zi_X8_judgedOtherwise_X8 : ∀ w ∈ wsX80, w ∈ wsX8_judgedOtherwise := fun w h => (List.mem_cons_of_mem _ (List.mem_append_right _ h))
set_option maxHeartbeats 4000000 in
set_option maxRecDepth 100000 in
theorem ct_X8_judgedOtherwise (l : Launch) (G : z_G) (ad : Nat → Nat) : z_M l yX8_judgedOtherwise wsX8_judgedOtherwise { frames := 1, cells := 0, slots := 0, locals := 12 } [.ref (ad 30)] G (shX, ad, IX, JX, PX ad) (fun r u1 => u1 = (shX, ad, IX, JX, PX ad) ∧ r = 0) 0 0 := by
  intro sz
  refine z_headQ (cc := cX8_judgedOtherwise) (maxL := 3) (ret := (some .int)) (by decide) rfl (Nat.le_of_ble_eq_true rfl) ?_
  intro p e s m below meth c ls hIn hK hsz hW hl
  obtain ⟨hx, hb, hr, hml, hown, hts, hlocks, hname⟩ := hIn
  subst hsz
  have hown : s.vm.findClass RX8 = some m.cls := hown
  have hA : ∀ q : Nat, s.heap.size ≤ q → z_A (shX, ad, IX, JX, PX ad) s.heap.size q := fun q h => Or.inr h
  generalize hAe : z_A (shX, ad, IX, JX, PX ad) s.heap.size = A at *
  have hS : va_S A s.heap s.heap [] := va_S.rf
  have hl : lv_has ls 3 [(0, .ref (ad 30))] := hl
  refine lv_iconst (v := 0) hx hb dX8_judgedOtherwise_0 (by decide) ?_
  refine lv_istore_n (lv' := [(1, .int 0), (0, .ref (ad 30))]) hx hb dX8_judgedOtherwise_1 rfl hl (by decide) rfl (fun ls hl => ?_)
  refine lv_iconst (v := 0) hx hb dX8_judgedOtherwise_2 (by decide) ?_
  refine lv_istore_n (lv' := [(2, .int 0), (1, .int 0), (0, .ref (ad 30))]) hx hb dX8_judgedOtherwise_3 rfl hl (by decide) rfl (fun ls hl => ?_)
  refine lv_iload_n hx hb dX8_judgedOtherwise_4 rfl (lv_at hl 0 rfl) ?_
  refine lv_aload_n hx hb dX8_judgedOtherwise_5 rfl (lv_at hl 2 rfl) ?_
  refine z_get (T := TX8) (N := 9) (ci := 8) (i := 30) (v := .int 0) hx hb hts zi_X8_judgedOtherwise_X8 hown hK hW rfl rfl 8 (by decide) (hts (.fieldLink RX8 36 "PetrolBoard$Pours" "number" "I") (List.mem_of_getElem? (i := 1) rfl)) (fun _ h => h) rfl dX8_judgedOtherwise_6 ?_
  refine lv_icmp_ge (tgt := 42) hx hb dX8_judgedOtherwise_9 (by decide) (fun c1 => ?_) (fun c1 => absurd (by decide) c1)
  refine lv_iload_n hx hb dX8_judgedOtherwise_42 rfl (lv_at hl 1 rfl) ?_
  exact z_iret hx hb hr hK hS (Nat.le_of_ble_eq_true rfl) (Nat.le_of_ble_eq_true rfl) hlocks dX8_judgedOtherwise_43 (shX, ad, IX, JX, PX ad) hW ⟨rfl, rfl⟩
set_option maxHeartbeats 4000000 in
set_option maxRecDepth 100000 in
theorem ct_X8_tell (l : Launch) (G : z_G) (ad : Nat → Nat) (a1 : Int32) (a2 : Int32) : z_M l yX8_tell wsX8_tell { frames := 2, cells := 0, slots := 0, locals := 33 } [.ref (ad 30), .int a1, .int a2] G (shX, ad, IX, JX, PX ad) (fun r u1 => u1 = (shX, ad, IX, JX, PX ad) ∧ r = (-1)) 0 0 := by
  intro sz
  refine z_headQ (cc := cX8_tell) (maxL := 3) (ret := (some .int)) (by decide) rfl (Nat.le_of_ble_eq_true rfl) ?_
  intro p e s m below meth c ls hIn hK hsz hW hl
  obtain ⟨hx, hb, hr, hml, hown, hts, hlocks, hname⟩ := hIn
  subst hsz
  have hown : s.vm.findClass RX8 = some m.cls := hown
  have hA : ∀ q : Nat, s.heap.size ≤ q → z_A (shX, ad, IX, JX, PX ad) s.heap.size q := fun q h => Or.inr h
  generalize hAe : z_A (shX, ad, IX, JX, PX ad) s.heap.size = A at *
  have hS : va_S A s.heap s.heap [] := va_S.rf
  have hl : lv_has ls 3 [(0, .ref (ad 30)), (1, .int a1), (2, .int a2)] := hl
  refine lv_aload_n hx hb dX8_tell_0 rfl (lv_at hl 0 rfl) ?_
  refine lv_iload_n hx hb dX8_tell_1 rfl (lv_at hl 1 rfl) ?_
  refine z_ci hW hS hA (va_runV (As := [.int a1]) (rest := []) ⟨hx, hb, hml, hown, hts⟩ (ct_X8_has l G ad a1 _) (cwV 1 hts gX8_tell_X8_has rfl rfl rfl (by decide +kernel) ⟨Nat.le_of_ble_eq_true rfl, Nat.le_of_ble_eq_true rfl⟩) (z_preV hK hW rfl rfl) rfl rfl hl.1 rfl (lv_room (Nat.le_of_ble_eq_true rfl)) dX8_tell_2 ⟨Nat.le_of_ble_eq_true rfl, Nat.le_of_ble_eq_true rfl⟩) (fun r u1 H locs hp hW hS => ?_)
  obtain ⟨e9, rfl⟩ := hp
  rw [e9] at hW
  refine lv_if_ne (tgt := 10) hx hb dX8_tell_5 (by decide) (fun c1 => absurd (by decide) c1) (fun c1 => ?_)
  refine lv_iconst (v := (-1)) hx hb dX8_tell_8 (by decide) ?_
  exact z_iret hx hb hr hK hS (Nat.le_of_ble_eq_true rfl) (Nat.le_of_ble_eq_true rfl) hlocks dX8_tell_9 (shX, ad, IX, JX, PX ad) hW ⟨rfl, rfl⟩
theorem zi_X11_port_X11 : ∀ w ∈ wsX110, w ∈ wsX11_port := fun w h => (List.mem_cons_of_mem _ (List.mem_append_left _ (List.mem_append_right _ h)))
set_option maxHeartbeats 4000000 in
set_option maxRecDepth 100000 in
theorem ct_X11_port (l : Launch) (G : z_G) (ad : Nat → Nat) (a1 : Int32) : z_M l yX11_port wsX11_port { frames := 2, cells := 0, slots := 0, locals := 34 } [.ref (ad 0), .int a1] G (shX, ad, IX, JX, PX ad) (fun r u1 => r = fr_port a1) 0 0 := by
  intro sz
  refine z_headQ (cc := cX11_port) (maxL := 2) (ret := (some .int)) (by decide) rfl (Nat.le_of_ble_eq_true rfl) ?_
  intro p e s m below meth c ls hIn hK hsz hW hl
  obtain ⟨hx, hb, hr, hml, hown, hts, hlocks, hname⟩ := hIn
  subst hsz
  have hown : s.vm.findClass RX11 = some m.cls := hown
  have hA : ∀ q : Nat, s.heap.size ≤ q → z_A (shX, ad, IX, JX, PX ad) s.heap.size q := fun q h => Or.inr h
  generalize hAe : z_A (shX, ad, IX, JX, PX ad) s.heap.size = A at *
  have hS : va_S A s.heap s.heap [] := va_S.rf
  have hl : lv_has ls 2 [(0, .ref (ad 0)), (1, .int a1)] := hl
  refine lv_iload_n hx hb dX11_port_0 rfl (lv_at hl 1 rfl) ?_
  refine lv_iconst (v := 0) hx hb dX11_port_1 (by decide) ?_
  refine lv_bipush (v := 50) hx hb dX11_port_2 (by decide) ?_
  refine z_ci hW hS hA (va_runS (As := [.int a1, .int 0, .int 50]) (rest := []) ⟨hx, hb, hml, hown, hts⟩ (ct_X11_within l G (shX, ad, IX, JX, PX ad) a1 0 50 _) (va_cwS 3 hts gX11_port_X11_within rfl rfl rfl (by decide +kernel) ⟨Nat.le_of_ble_eq_true rfl, Nat.le_of_ble_eq_true rfl⟩) (z_preS hK hW) rfl rfl hl.1 rfl (lv_room (Nat.le_of_ble_eq_true rfl)) dX11_port_4 ⟨Nat.le_of_ble_eq_true rfl, Nat.le_of_ble_eq_true rfl⟩) (fun r u1 H locs hp hW hS => ?_)
  obtain ⟨e9, hp⟩ := hp
  rw [e9] at hW
  rcases hp with ⟨rfl, h1, h2⟩ | ⟨rfl, h3⟩
  · refine lv_if_ne (tgt := 12) hx hb dX11_port_7 (by decide) (fun c4 => ?_) (fun c4 => absurd c4 (by decide))
    refine lv_aload_n hx hb dX11_port_12 rfl (lv_at hl 0 rfl) ?_
    refine z_get (T := TX11) (N := 13) (ci := 11) (i := 0) (v := .ref (ad 41)) hx hb hts zi_X11_port_X11 hown hK hW rfl rfl 10 (by decide) (hts (.fieldLink RX11 61 "PetrolBoard" "loads" "LPetrolBoard$Loads;") (List.mem_of_getElem? (i := 1) rfl)) (fun _ h => h) rfl dX11_port_13 ?_
    refine lv_iload_n hx hb dX11_port_16 rfl (lv_at hl 1 rfl) ?_
    refine z_ci hW hS hA (va_runV (As := [.int a1]) (rest := []) ⟨hx, hb, hml, hown, hts⟩ (ct_X4_addPort l G ad a1 _) (cwV 1 hts gX11_port_X4_addPort rfl rfl rfl (by decide +kernel) ⟨Nat.le_of_ble_eq_true rfl, Nat.le_of_ble_eq_true rfl⟩) (z_preV hK hW rfl rfl) rfl rfl hl.1 rfl (lv_room (Nat.le_of_ble_eq_true rfl)) dX11_port_17 ⟨Nat.le_of_ble_eq_true rfl, Nat.le_of_ble_eq_true rfl⟩) (fun r u1 H locs hp hW hS => ?_)
    rw [hp]
    exact z_iret hx hb hr hK hS (Nat.le_of_ble_eq_true rfl) (Nat.le_of_ble_eq_true rfl) hlocks dX11_port_20 u1 hW (by show _ = fr_port a1; unfold fr_port; split <;> first | rfl | (rename_i q; exfalso; simp only [Int32.lt_iff_toInt_lt, Int32.le_iff_toInt_le, ← Int32.toInt_inj, z_l0, z_l1, z_l50] at q h1 h2; omega))
  · refine lv_if_ne (tgt := 12) hx hb dX11_port_7 (by decide) (fun c5 => absurd (by decide) c5) (fun c5 => ?_)
    refine lv_iconst (v := (-1)) hx hb dX11_port_10 (by decide) ?_
    exact z_iret hx hb hr hK hS (Nat.le_of_ble_eq_true rfl) (Nat.le_of_ble_eq_true rfl) hlocks dX11_port_11 (shX, ad, IX, JX, PX ad) hW (by show _ = fr_port a1; unfold fr_port; split <;> first | rfl | (rename_i q; exfalso; simp only [Int32.lt_iff_toInt_lt, Int32.le_iff_toInt_le, ← Int32.toInt_inj, z_l0, z_l1, z_l50] at q h3 h3; omega))
theorem zi_X11_holder_X11 : ∀ w ∈ wsX110, w ∈ wsX11_holder := fun w h => (List.mem_cons_of_mem _ (List.mem_append_left _ (List.mem_append_right _ h)))
set_option maxHeartbeats 4000000 in
set_option maxRecDepth 100000 in
theorem ct_X11_holder (l : Launch) (G : z_G) (ad : Nat → Nat) (a1 : Int32) (a2 : Int32) (a3 : Int32) (a4 : Int32) (a5 : Int32) : z_M l yX11_holder wsX11_holder { frames := 2, cells := 0, slots := 0, locals := 37 } [.ref (ad 0), .int a1, .int a2, .int a3, .int a4, .int a5] G (shX, ad, IX, JX, PX ad) (fun r u1 => r = fr_holder a1 a2 a3 a4 a5) 0 0 := by
  intro sz
  refine z_headQ (cc := cX11_holder) (maxL := 6) (ret := (some .int)) (by decide) rfl (Nat.le_of_ble_eq_true rfl) ?_
  intro p e s m below meth c ls hIn hK hsz hW hl
  obtain ⟨hx, hb, hr, hml, hown, hts, hlocks, hname⟩ := hIn
  subst hsz
  have hown : s.vm.findClass RX11 = some m.cls := hown
  have hA : ∀ q : Nat, s.heap.size ≤ q → z_A (shX, ad, IX, JX, PX ad) s.heap.size q := fun q h => Or.inr h
  generalize hAe : z_A (shX, ad, IX, JX, PX ad) s.heap.size = A at *
  have hS : va_S A s.heap s.heap [] := va_S.rf
  have hl : lv_has ls 6 [(0, .ref (ad 0)), (1, .int a1), (2, .int a2), (3, .int a3), (4, .int a4), (5, .int a5)] := hl
  refine lv_iload_n hx hb dX11_holder_0 rfl (lv_at hl 1 rfl) ?_
  refine lv_iconst (v := 1) hx hb dX11_holder_1 (by decide) ?_
  refine lv_bipush (v := 9) hx hb dX11_holder_2 (by decide) ?_
  refine z_ci hW hS hA (va_runS (As := [.int a1, .int 1, .int 9]) (rest := []) ⟨hx, hb, hml, hown, hts⟩ (ct_X11_within l G (shX, ad, IX, JX, PX ad) a1 1 9 _) (va_cwS 3 hts gX11_holder_X11_within rfl rfl rfl (by decide +kernel) ⟨Nat.le_of_ble_eq_true rfl, Nat.le_of_ble_eq_true rfl⟩) (z_preS hK hW) rfl rfl hl.1 rfl (lv_room (Nat.le_of_ble_eq_true rfl)) dX11_holder_4 ⟨Nat.le_of_ble_eq_true rfl, Nat.le_of_ble_eq_true rfl⟩) (fun r u1 H locs hp hW hS => ?_)
  obtain ⟨e9, hp⟩ := hp
  rw [e9] at hW
  rcases hp with ⟨rfl, h1, h2⟩ | ⟨rfl, h3⟩
  · refine lv_if_eq (tgt := 30) hx hb dX11_holder_7 (by decide) (fun c4 => absurd c4 (by decide)) (fun c4 => ?_)
    refine lv_iload_n hx hb dX11_holder_10 rfl (lv_at hl 2 rfl) ?_
    refine lv_iconst (v := 0) hx hb dX11_holder_11 (by decide) ?_
    refine lv_bipush (v := 9) hx hb dX11_holder_12 (by decide) ?_
    refine z_ci hW hS hA (va_runS (As := [.int a2, .int 0, .int 9]) (rest := []) ⟨hx, hb, hml, hown, hts⟩ (ct_X11_within l G (shX, ad, IX, JX, PX ad) a2 0 9 _) (va_cwS 3 hts gX11_holder_X11_within rfl rfl rfl (by decide +kernel) ⟨Nat.le_of_ble_eq_true rfl, Nat.le_of_ble_eq_true rfl⟩) (z_preS hK hW) rfl rfl hl.1 rfl (lv_room (Nat.le_of_ble_eq_true rfl)) dX11_holder_14 ⟨Nat.le_of_ble_eq_true rfl, Nat.le_of_ble_eq_true rfl⟩) (fun r u1 H locs hp hW hS => ?_)
    obtain ⟨e9, hp⟩ := hp
    rw [e9] at hW
    rcases hp with ⟨rfl, h5, h6⟩ | ⟨rfl, h7⟩
    · refine lv_if_eq (tgt := 30) hx hb dX11_holder_17 (by decide) (fun c8 => absurd c8 (by decide)) (fun c8 => ?_)
      refine lv_iload_n hx hb dX11_holder_20 rfl (lv_at hl 3 rfl) ?_
      refine lv_iconst (v := 1) hx hb dX11_holder_21 (by decide) ?_
      refine lv_bipush (v := 8) hx hb dX11_holder_22 (by decide) ?_
      refine z_ci hW hS hA (va_runS (As := [.int a3, .int 1, .int 8]) (rest := []) ⟨hx, hb, hml, hown, hts⟩ (ct_X11_within l G (shX, ad, IX, JX, PX ad) a3 1 8 _) (va_cwS 3 hts gX11_holder_X11_within rfl rfl rfl (by decide +kernel) ⟨Nat.le_of_ble_eq_true rfl, Nat.le_of_ble_eq_true rfl⟩) (z_preS hK hW) rfl rfl hl.1 rfl (lv_room (Nat.le_of_ble_eq_true rfl)) dX11_holder_24 ⟨Nat.le_of_ble_eq_true rfl, Nat.le_of_ble_eq_true rfl⟩) (fun r u1 H locs hp hW hS => ?_)
      obtain ⟨e9, hp⟩ := hp
      rw [e9] at hW
      rcases hp with ⟨rfl, h9, h10⟩ | ⟨rfl, h11⟩
      · refine lv_if_ne (tgt := 32) hx hb dX11_holder_27 (by decide) (fun c12 => ?_) (fun c12 => absurd c12 (by decide))
        refine lv_iload hx hb dX11_holder_32 (lv_at hl 4 rfl) ?_
        refine lv_iconst (v := 0) hx hb dX11_holder_34 (by decide) ?_
        refine lv_sipush (v := 999) hx hb dX11_holder_35 (by decide) ?_
        refine z_ci hW hS hA (va_runS (As := [.int a4, .int 0, .int 999]) (rest := []) ⟨hx, hb, hml, hown, hts⟩ (ct_X11_within l G (shX, ad, IX, JX, PX ad) a4 0 999 _) (va_cwS 3 hts gX11_holder_X11_within rfl rfl rfl (by decide +kernel) ⟨Nat.le_of_ble_eq_true rfl, Nat.le_of_ble_eq_true rfl⟩) (z_preS hK hW) rfl rfl hl.1 rfl (lv_room (Nat.le_of_ble_eq_true rfl)) dX11_holder_38 ⟨Nat.le_of_ble_eq_true rfl, Nat.le_of_ble_eq_true rfl⟩) (fun r u1 H locs hp hW hS => ?_)
        obtain ⟨e9, hp⟩ := hp
        rw [e9] at hW
        rcases hp with ⟨rfl, h13, h14⟩ | ⟨rfl, h15⟩
        · refine lv_if_eq (tgt := 55) hx hb dX11_holder_41 (by decide) (fun c16 => absurd c16 (by decide)) (fun c16 => ?_)
          refine lv_iload hx hb dX11_holder_44 (lv_at hl 5 rfl) ?_
          refine lv_iconst (v := 0) hx hb dX11_holder_46 (by decide) ?_
          refine lv_bipush (v := 99) hx hb dX11_holder_47 (by decide) ?_
          refine z_ci hW hS hA (va_runS (As := [.int a5, .int 0, .int 99]) (rest := []) ⟨hx, hb, hml, hown, hts⟩ (ct_X11_within l G (shX, ad, IX, JX, PX ad) a5 0 99 _) (va_cwS 3 hts gX11_holder_X11_within rfl rfl rfl (by decide +kernel) ⟨Nat.le_of_ble_eq_true rfl, Nat.le_of_ble_eq_true rfl⟩) (z_preS hK hW) rfl rfl hl.1 rfl (lv_room (Nat.le_of_ble_eq_true rfl)) dX11_holder_49 ⟨Nat.le_of_ble_eq_true rfl, Nat.le_of_ble_eq_true rfl⟩) (fun r u1 H locs hp hW hS => ?_)
          obtain ⟨e9, hp⟩ := hp
          rw [e9] at hW
          rcases hp with ⟨rfl, h17, h18⟩ | ⟨rfl, h19⟩
          · refine lv_if_ne (tgt := 57) hx hb dX11_holder_52 (by decide) (fun c20 => ?_) (fun c20 => absurd c20 (by decide))
            refine lv_aload_n hx hb dX11_holder_57 rfl (lv_at hl 0 rfl) ?_
            refine z_get (T := TX11) (N := 13) (ci := 11) (i := 0) (v := .ref (ad 1)) hx hb hts zi_X11_holder_X11 hown hK hW rfl rfl 2 (by decide) (hts (.fieldLink RX11 16 "PetrolBoard" "holders" "LPetrolBoard$Holders;") (List.mem_of_getElem? (i := 1) rfl)) (fun _ h => h) rfl dX11_holder_58 ?_
            refine lv_iload_n hx hb dX11_holder_61 rfl (lv_at hl 1 rfl) ?_
            refine lv_iload_n hx hb dX11_holder_62 rfl (lv_at hl 2 rfl) ?_
            refine lv_iload_n hx hb dX11_holder_63 rfl (lv_at hl 3 rfl) ?_
            refine lv_iload hx hb dX11_holder_64 (lv_at hl 4 rfl) ?_
            refine lv_iload hx hb dX11_holder_66 (lv_at hl 5 rfl) ?_
            refine z_ci hW hS hA (va_runV (As := [.int a1, .int a2, .int a3, .int a4, .int a5]) (rest := []) ⟨hx, hb, hml, hown, hts⟩ (ct_X2_add l G ad a1 a2 a3 a4 a5 _) (cwV 5 hts gX11_holder_X2_add rfl rfl rfl (by decide +kernel) ⟨Nat.le_of_ble_eq_true rfl, Nat.le_of_ble_eq_true rfl⟩) (z_preV hK hW rfl rfl) rfl rfl hl.1 rfl (lv_room (Nat.le_of_ble_eq_true rfl)) dX11_holder_68 ⟨Nat.le_of_ble_eq_true rfl, Nat.le_of_ble_eq_true rfl⟩) (fun r u1 H locs hp hW hS => ?_)
            rw [hp]
            exact z_iret hx hb hr hK hS (Nat.le_of_ble_eq_true rfl) (Nat.le_of_ble_eq_true rfl) hlocks dX11_holder_71 u1 hW (by show _ = fr_holder a1 a2 a3 a4 a5; unfold fr_holder; split <;> first | rfl | (rename_i q; exfalso; simp only [Int32.lt_iff_toInt_lt, Int32.le_iff_toInt_le, ← Int32.toInt_inj, z_l0, z_l1, z_l8, z_l9, z_l99, z_l999] at q h1 h2 h5 h6 h9 h10 h13 h14 h17 h18; omega))
          · refine lv_if_ne (tgt := 57) hx hb dX11_holder_52 (by decide) (fun c21 => absurd (by decide) c21) (fun c21 => ?_)
            refine lv_iconst (v := (-1)) hx hb dX11_holder_55 (by decide) ?_
            exact z_iret hx hb hr hK hS (Nat.le_of_ble_eq_true rfl) (Nat.le_of_ble_eq_true rfl) hlocks dX11_holder_56 (shX, ad, IX, JX, PX ad) hW (by show _ = fr_holder a1 a2 a3 a4 a5; unfold fr_holder; split <;> first | rfl | (rename_i q; exfalso; simp only [Int32.lt_iff_toInt_lt, Int32.le_iff_toInt_le, ← Int32.toInt_inj, z_l0, z_l1, z_l8, z_l9, z_l99, z_l999] at q h1 h2 h5 h6 h9 h10 h13 h14 h19 h19; omega))
        · refine lv_if_eq (tgt := 55) hx hb dX11_holder_41 (by decide) (fun c22 => ?_) (fun c22 => absurd (by decide) c22)
          refine lv_iconst (v := (-1)) hx hb dX11_holder_55 (by decide) ?_
          exact z_iret hx hb hr hK hS (Nat.le_of_ble_eq_true rfl) (Nat.le_of_ble_eq_true rfl) hlocks dX11_holder_56 (shX, ad, IX, JX, PX ad) hW (by show _ = fr_holder a1 a2 a3 a4 a5; unfold fr_holder; split <;> first | rfl | (rename_i q; exfalso; simp only [Int32.lt_iff_toInt_lt, Int32.le_iff_toInt_le, ← Int32.toInt_inj, z_l0, z_l1, z_l8, z_l9, z_l99, z_l999] at q h1 h2 h5 h6 h9 h10 h15 h15; omega))
      · refine lv_if_ne (tgt := 32) hx hb dX11_holder_27 (by decide) (fun c23 => absurd (by decide) c23) (fun c23 => ?_)
        refine lv_iconst (v := (-1)) hx hb dX11_holder_30 (by decide) ?_
        exact z_iret hx hb hr hK hS (Nat.le_of_ble_eq_true rfl) (Nat.le_of_ble_eq_true rfl) hlocks dX11_holder_31 (shX, ad, IX, JX, PX ad) hW (by show _ = fr_holder a1 a2 a3 a4 a5; unfold fr_holder; split <;> first | rfl | (rename_i q; exfalso; simp only [Int32.lt_iff_toInt_lt, Int32.le_iff_toInt_le, ← Int32.toInt_inj, z_l0, z_l1, z_l8, z_l9, z_l99, z_l999] at q h1 h2 h5 h6 h11 h11; omega))
    · refine lv_if_eq (tgt := 30) hx hb dX11_holder_17 (by decide) (fun c24 => ?_) (fun c24 => absurd (by decide) c24)
      refine lv_iconst (v := (-1)) hx hb dX11_holder_30 (by decide) ?_
      exact z_iret hx hb hr hK hS (Nat.le_of_ble_eq_true rfl) (Nat.le_of_ble_eq_true rfl) hlocks dX11_holder_31 (shX, ad, IX, JX, PX ad) hW (by show _ = fr_holder a1 a2 a3 a4 a5; unfold fr_holder; split <;> first | rfl | (rename_i q; exfalso; simp only [Int32.lt_iff_toInt_lt, Int32.le_iff_toInt_le, ← Int32.toInt_inj, z_l0, z_l1, z_l8, z_l9, z_l99, z_l999] at q h1 h2 h7 h7; omega))
  · refine lv_if_eq (tgt := 30) hx hb dX11_holder_7 (by decide) (fun c25 => ?_) (fun c25 => absurd (by decide) c25)
    refine lv_iconst (v := (-1)) hx hb dX11_holder_30 (by decide) ?_
    exact z_iret hx hb hr hK hS (Nat.le_of_ble_eq_true rfl) (Nat.le_of_ble_eq_true rfl) hlocks dX11_holder_31 (shX, ad, IX, JX, PX ad) hW (by show _ = fr_holder a1 a2 a3 a4 a5; unfold fr_holder; split <;> first | rfl | (rename_i q; exfalso; simp only [Int32.lt_iff_toInt_lt, Int32.le_iff_toInt_le, ← Int32.toInt_inj, z_l0, z_l1, z_l8, z_l9, z_l99, z_l999] at q h3 h3; omega))
theorem zi_X11_count_X0 : ∀ w ∈ wsX00, w ∈ wsX11_count := fun w h => (List.mem_cons_of_mem _ (List.mem_append_left _ (List.mem_append_left _ (List.mem_append_left _ (List.mem_append_left _ (List.mem_append_right _ h))))))
theorem zi_X11_count_X2 : ∀ w ∈ wsX20, w ∈ wsX11_count := fun w h => (List.mem_cons_of_mem _ (List.mem_append_left _ (List.mem_append_left _ (List.mem_append_left _ (List.mem_append_left _ (List.mem_append_left _ (List.mem_append_left _ (List.mem_append_right _ h))))))))
theorem zi_X11_count_X3 : ∀ w ∈ wsX30, w ∈ wsX11_count := fun w h => (List.mem_cons_of_mem _ (List.mem_append_left _ (List.mem_append_right _ h)))
theorem zi_X11_count_X4 : ∀ w ∈ wsX40, w ∈ wsX11_count := fun w h => (List.mem_cons_of_mem _ (List.mem_append_left _ (List.mem_append_left _ (List.mem_append_right _ h))))
theorem zi_X11_count_X6 : ∀ w ∈ wsX60, w ∈ wsX11_count := fun w h => (List.mem_cons_of_mem _ (List.mem_append_left _ (List.mem_append_left _ (List.mem_append_left _ (List.mem_append_left _ (List.mem_append_left _ (List.mem_append_right _ h)))))))
theorem zi_X11_count_X8 : ∀ w ∈ wsX80, w ∈ wsX11_count := fun w h => (List.mem_cons_of_mem _ (List.mem_append_left _ (List.mem_append_left _ (List.mem_append_left _ (List.mem_append_right _ h)))))
theorem zi_X11_count_X9 : ∀ w ∈ wsX90, w ∈ wsX11_count := fun w h => (List.mem_cons_of_mem _ (List.mem_append_right _ h))
theorem zi_X11_count_X11 : ∀ w ∈ wsX110, w ∈ wsX11_count := fun w h => (List.mem_cons_of_mem _ (List.mem_append_left _ (List.mem_append_left _ (List.mem_append_left _ (List.mem_append_left _ (List.mem_append_left _ (List.mem_append_left _ (List.mem_append_left _ (List.mem_append_right _ h)))))))))
set_option maxHeartbeats 4000000 in
set_option maxRecDepth 100000 in
theorem ct_X11_count (l : Launch) (G : z_G) (ad : Nat → Nat) (a1 : Int32) : z_M l yX11_count wsX11_count { frames := 2, cells := 0, slots := 0, locals := 34 } [.ref (ad 0), .int a1] G (shX, ad, IX, JX, PX ad) (fun r u1 => r = fr_count a1) 0 0 := by
  intro sz
  refine z_headQ (cc := cX11_count) (maxL := 2) (ret := (some .int)) (by decide) rfl (Nat.le_of_ble_eq_true rfl) ?_
  intro p e s m below meth c ls hIn hK hsz hW hl
  obtain ⟨hx, hb, hr, hml, hown, hts, hlocks, hname⟩ := hIn
  subst hsz
  have hown : s.vm.findClass RX11 = some m.cls := hown
  have hA : ∀ q : Nat, s.heap.size ≤ q → z_A (shX, ad, IX, JX, PX ad) s.heap.size q := fun q h => Or.inr h
  generalize hAe : z_A (shX, ad, IX, JX, PX ad) s.heap.size = A at *
  have hS : va_S A s.heap s.heap [] := va_S.rf
  have hl : lv_has ls 2 [(0, .ref (ad 0)), (1, .int a1)] := hl
  refine lv_iload_n hx hb dX11_count_0 rfl (lv_at hl 1 rfl) ?_
  by_cases q1 : a1 = 0
  · refine lv_tableIn (tgt := 68) hx hb dX11_count_1 (by rw [q1]; decide) (by rw [q1]; decide) (by rw [q1]; rfl) (by decide) ?_
    refine lv_aload_n hx hb dX11_count_68 rfl (lv_at hl 0 rfl) ?_
    refine z_get (T := TX11) (N := 13) (ci := 11) (i := 0) (v := .int 0) hx hb hts zi_X11_count_X11 hown hK hW rfl rfl 0 (by decide) (hts (.fieldLink RX11 85 "PetrolBoard" "today" "I") (List.mem_of_getElem? (i := 1) rfl)) (fun _ h => h) rfl dX11_count_69 ?_
    exact z_iret hx hb hr hK hS (Nat.le_of_ble_eq_true rfl) (Nat.le_of_ble_eq_true rfl) hlocks dX11_count_72 (shX, ad, IX, JX, PX ad) hW (by show _ = fr_count a1; unfold fr_count; split <;> first | rfl | (rename_i q; exfalso; simp only [Int32.lt_iff_toInt_lt, Int32.le_iff_toInt_le, ← Int32.toInt_inj, z_l0, z_l1, z_l2, z_l3, z_l4, z_l5, z_l6, z_l7, z_l8, z_l9, z_l10, z_l11, z_l12] at q q1; omega))
  by_cases q2 : a1 = 1
  · refine lv_tableIn (tgt := 73) hx hb dX11_count_1 (by rw [q2]; decide) (by rw [q2]; decide) (by rw [q2]; rfl) (by decide) ?_
    refine lv_aload_n hx hb dX11_count_73 rfl (lv_at hl 0 rfl) ?_
    refine z_get (T := TX11) (N := 13) (ci := 11) (i := 0) (v := .ref (ad 1)) hx hb hts zi_X11_count_X11 hown hK hW rfl rfl 2 (by decide) (hts (.fieldLink RX11 16 "PetrolBoard" "holders" "LPetrolBoard$Holders;") (List.mem_of_getElem? (i := 2) rfl)) (fun _ h => h) rfl dX11_count_74 ?_
    refine z_get (T := TX2) (N := 12) (ci := 2) (i := 1) (v := .int 0) hx hb hts zi_X11_count_X2 hown hK hW rfl rfl 5 (by decide) (hts (.fieldLink RX11 373 "PetrolBoard$Holders" "number" "I") (List.mem_of_getElem? (i := 3) rfl)) (fun _ h => h) rfl dX11_count_77 ?_
    exact z_iret hx hb hr hK hS (Nat.le_of_ble_eq_true rfl) (Nat.le_of_ble_eq_true rfl) hlocks dX11_count_80 (shX, ad, IX, JX, PX ad) hW (by show _ = fr_count a1; unfold fr_count; split <;> first | rfl | (rename_i q; exfalso; simp only [Int32.lt_iff_toInt_lt, Int32.le_iff_toInt_le, ← Int32.toInt_inj, z_l0, z_l1, z_l2, z_l3, z_l4, z_l5, z_l6, z_l7, z_l8, z_l9, z_l10, z_l11, z_l12] at q q1 q2; omega))
  by_cases q3 : a1 = 2
  · refine lv_tableIn (tgt := 81) hx hb dX11_count_1 (by rw [q3]; decide) (by rw [q3]; decide) (by rw [q3]; rfl) (by decide) ?_
    refine lv_aload_n hx hb dX11_count_81 rfl (lv_at hl 0 rfl) ?_
    refine z_get (T := TX11) (N := 13) (ci := 11) (i := 0) (v := .ref (ad 1)) hx hb hts zi_X11_count_X11 hown hK hW rfl rfl 2 (by decide) (hts (.fieldLink RX11 16 "PetrolBoard" "holders" "LPetrolBoard$Holders;") (List.mem_of_getElem? (i := 2) rfl)) (fun _ h => h) rfl dX11_count_82 ?_
    refine z_get (T := TX2) (N := 12) (ci := 2) (i := 1) (v := .int 0) hx hb hts zi_X11_count_X2 hown hK hW rfl rfl 11 (by decide) (hts (.fieldLink RX11 407 "PetrolBoard$Holders" "notes" "I") (List.mem_of_getElem? (i := 4) rfl)) (fun _ h => h) rfl dX11_count_85 ?_
    exact z_iret hx hb hr hK hS (Nat.le_of_ble_eq_true rfl) (Nat.le_of_ble_eq_true rfl) hlocks dX11_count_88 (shX, ad, IX, JX, PX ad) hW (by show _ = fr_count a1; unfold fr_count; split <;> first | rfl | (rename_i q; exfalso; simp only [Int32.lt_iff_toInt_lt, Int32.le_iff_toInt_le, ← Int32.toInt_inj, z_l0, z_l1, z_l2, z_l3, z_l4, z_l5, z_l6, z_l7, z_l8, z_l9, z_l10, z_l11, z_l12] at q q1 q2 q3; omega))
  by_cases q4 : a1 = 3
  · refine lv_tableIn (tgt := 89) hx hb dX11_count_1 (by rw [q4]; decide) (by rw [q4]; decide) (by rw [q4]; rfl) (by decide) ?_
    refine lv_aload_n hx hb dX11_count_89 rfl (lv_at hl 0 rfl) ?_
    refine z_get (T := TX11) (N := 13) (ci := 11) (i := 0) (v := .ref (ad 21)) hx hb hts zi_X11_count_X11 hown hK hW rfl rfl 4 (by decide) (hts (.fieldLink RX11 30 "PetrolBoard" "orderBook" "LPetrolBoard$OrderBook;") (List.mem_of_getElem? (i := 5) rfl)) (fun _ h => h) rfl dX11_count_90 ?_
    refine z_get (T := TX6) (N := 3) (ci := 6) (i := 21) (v := .int 0) hx hb hts zi_X11_count_X6 hown hK hW rfl rfl 2 (by decide) (hts (.fieldLink RX11 125 "PetrolBoard$OrderBook" "number" "I") (List.mem_of_getElem? (i := 6) rfl)) (fun _ h => h) rfl dX11_count_93 ?_
    exact z_iret hx hb hr hK hS (Nat.le_of_ble_eq_true rfl) (Nat.le_of_ble_eq_true rfl) hlocks dX11_count_96 (shX, ad, IX, JX, PX ad) hW (by show _ = fr_count a1; unfold fr_count; split <;> first | rfl | (rename_i q; exfalso; simp only [Int32.lt_iff_toInt_lt, Int32.le_iff_toInt_le, ← Int32.toInt_inj, z_l0, z_l1, z_l2, z_l3, z_l4, z_l5, z_l6, z_l7, z_l8, z_l9, z_l10, z_l11, z_l12] at q q1 q2 q3 q4; omega))
  by_cases q5 : a1 = 4
  · refine lv_tableIn (tgt := 97) hx hb dX11_count_1 (by rw [q5]; decide) (by rw [q5]; decide) (by rw [q5]; rfl) (by decide) ?_
    refine lv_aload_n hx hb dX11_count_97 rfl (lv_at hl 0 rfl) ?_
    refine z_get (T := TX11) (N := 13) (ci := 11) (i := 0) (v := .ref (ad 26)) hx hb hts zi_X11_count_X11 hown hK hW rfl rfl 5 (by decide) (hts (.fieldLink RX11 37 "PetrolBoard" "coupons" "LPetrolBoard$Coupons;") (List.mem_of_getElem? (i := 7) rfl)) (fun _ h => h) rfl dX11_count_98 ?_
    refine z_get (T := TX0) (N := 5) (ci := 0) (i := 26) (v := .int 0) hx hb hts zi_X11_count_X0 hown hK hW rfl rfl 3 (by decide) (hts (.fieldLink RX11 410 "PetrolBoard$Coupons" "books" "I") (List.mem_of_getElem? (i := 8) rfl)) (fun _ h => h) rfl dX11_count_101 ?_
    exact z_iret hx hb hr hK hS (Nat.le_of_ble_eq_true rfl) (Nat.le_of_ble_eq_true rfl) hlocks dX11_count_104 (shX, ad, IX, JX, PX ad) hW (by show _ = fr_count a1; unfold fr_count; split <;> first | rfl | (rename_i q; exfalso; simp only [Int32.lt_iff_toInt_lt, Int32.le_iff_toInt_le, ← Int32.toInt_inj, z_l0, z_l1, z_l2, z_l3, z_l4, z_l5, z_l6, z_l7, z_l8, z_l9, z_l10, z_l11, z_l12] at q q1 q2 q3 q4 q5; omega))
  by_cases q6 : a1 = 5
  · refine lv_tableIn (tgt := 105) hx hb dX11_count_1 (by rw [q6]; decide) (by rw [q6]; decide) (by rw [q6]; rfl) (by decide) ?_
    refine lv_aload_n hx hb dX11_count_105 rfl (lv_at hl 0 rfl) ?_
    refine z_get (T := TX11) (N := 13) (ci := 11) (i := 0) (v := .int 0) hx hb hts zi_X11_count_X11 hown hK hW rfl rfl 8 (by decide) (hts (.fieldLink RX11 178 "PetrolBoard" "stationNumber" "I") (List.mem_of_getElem? (i := 9) rfl)) (fun _ h => h) rfl dX11_count_106 ?_
    exact z_iret hx hb hr hK hS (Nat.le_of_ble_eq_true rfl) (Nat.le_of_ble_eq_true rfl) hlocks dX11_count_109 (shX, ad, IX, JX, PX ad) hW (by show _ = fr_count a1; unfold fr_count; split <;> first | rfl | (rename_i q; exfalso; simp only [Int32.lt_iff_toInt_lt, Int32.le_iff_toInt_le, ← Int32.toInt_inj, z_l0, z_l1, z_l2, z_l3, z_l4, z_l5, z_l6, z_l7, z_l8, z_l9, z_l10, z_l11, z_l12] at q q1 q2 q3 q4 q5 q6; omega))
  by_cases q7 : a1 = 6
  · refine lv_tableIn (tgt := 110) hx hb dX11_count_1 (by rw [q7]; decide) (by rw [q7]; decide) (by rw [q7]; rfl) (by decide) ?_
    refine lv_aload_n hx hb dX11_count_110 rfl (lv_at hl 0 rfl) ?_
    refine z_get (T := TX11) (N := 13) (ci := 11) (i := 0) (v := .ref (ad 30)) hx hb hts zi_X11_count_X11 hown hK hW rfl rfl 6 (by decide) (hts (.fieldLink RX11 44 "PetrolBoard" "pours" "LPetrolBoard$Pours;") (List.mem_of_getElem? (i := 10) rfl)) (fun _ h => h) rfl dX11_count_111 ?_
    refine z_get (T := TX8) (N := 9) (ci := 8) (i := 30) (v := .int 0) hx hb hts zi_X11_count_X8 hown hK hW rfl rfl 8 (by decide) (hts (.fieldLink RX11 201 "PetrolBoard$Pours" "number" "I") (List.mem_of_getElem? (i := 11) rfl)) (fun _ h => h) rfl dX11_count_114 ?_
    exact z_iret hx hb hr hK hS (Nat.le_of_ble_eq_true rfl) (Nat.le_of_ble_eq_true rfl) hlocks dX11_count_117 (shX, ad, IX, JX, PX ad) hW (by show _ = fr_count a1; unfold fr_count; split <;> first | rfl | (rename_i q; exfalso; simp only [Int32.lt_iff_toInt_lt, Int32.le_iff_toInt_le, ← Int32.toInt_inj, z_l0, z_l1, z_l2, z_l3, z_l4, z_l5, z_l6, z_l7, z_l8, z_l9, z_l10, z_l11, z_l12] at q q1 q2 q3 q4 q5 q6 q7; omega))
  by_cases q8 : a1 = 7
  · refine lv_tableIn (tgt := 118) hx hb dX11_count_1 (by rw [q8]; decide) (by rw [q8]; decide) (by rw [q8]; rfl) (by decide) ?_
    refine lv_aload_n hx hb dX11_count_118 rfl (lv_at hl 0 rfl) ?_
    refine z_get (T := TX11) (N := 13) (ci := 11) (i := 0) (v := .ref (ad 30)) hx hb hts zi_X11_count_X11 hown hK hW rfl rfl 6 (by decide) (hts (.fieldLink RX11 44 "PetrolBoard" "pours" "LPetrolBoard$Pours;") (List.mem_of_getElem? (i := 10) rfl)) (fun _ h => h) rfl dX11_count_119 ?_
    refine z_ci hW hS hA (va_runV (As := []) (rest := []) ⟨hx, hb, hml, hown, hts⟩ (ct_X8_judgedGood l G ad  _) (cwV 0 hts gX11_count_X8_judgedGood rfl rfl rfl (by decide +kernel) ⟨Nat.le_of_ble_eq_true rfl, Nat.le_of_ble_eq_true rfl⟩) (z_preV hK hW rfl rfl) rfl rfl hl.1 rfl (lv_room (Nat.le_of_ble_eq_true rfl)) dX11_count_122 ⟨Nat.le_of_ble_eq_true rfl, Nat.le_of_ble_eq_true rfl⟩) (fun r u1 H locs hp hW hS => ?_)
    obtain ⟨e9, rfl⟩ := hp
    rw [e9] at hW
    exact z_iret hx hb hr hK hS (Nat.le_of_ble_eq_true rfl) (Nat.le_of_ble_eq_true rfl) hlocks dX11_count_125 (shX, ad, IX, JX, PX ad) hW (by show _ = fr_count a1; unfold fr_count; split <;> first | rfl | (rename_i q; exfalso; simp only [Int32.lt_iff_toInt_lt, Int32.le_iff_toInt_le, ← Int32.toInt_inj, z_l0, z_l1, z_l2, z_l3, z_l4, z_l5, z_l6, z_l7, z_l8, z_l9, z_l10, z_l11, z_l12] at q q1 q2 q3 q4 q5 q6 q7 q8; omega))
  by_cases q9 : a1 = 8
  · refine lv_tableIn (tgt := 126) hx hb dX11_count_1 (by rw [q9]; decide) (by rw [q9]; decide) (by rw [q9]; rfl) (by decide) ?_
    refine lv_aload_n hx hb dX11_count_126 rfl (lv_at hl 0 rfl) ?_
    refine z_get (T := TX11) (N := 13) (ci := 11) (i := 0) (v := .ref (ad 30)) hx hb hts zi_X11_count_X11 hown hK hW rfl rfl 6 (by decide) (hts (.fieldLink RX11 44 "PetrolBoard" "pours" "LPetrolBoard$Pours;") (List.mem_of_getElem? (i := 10) rfl)) (fun _ h => h) rfl dX11_count_127 ?_
    refine z_ci hW hS hA (va_runV (As := []) (rest := []) ⟨hx, hb, hml, hown, hts⟩ (ct_X8_judgedOtherwise l G ad  _) (cwV 0 hts gX11_count_X8_judgedOtherwise rfl rfl rfl (by decide +kernel) ⟨Nat.le_of_ble_eq_true rfl, Nat.le_of_ble_eq_true rfl⟩) (z_preV hK hW rfl rfl) rfl rfl hl.1 rfl (lv_room (Nat.le_of_ble_eq_true rfl)) dX11_count_130 ⟨Nat.le_of_ble_eq_true rfl, Nat.le_of_ble_eq_true rfl⟩) (fun r u1 H locs hp hW hS => ?_)
    obtain ⟨e9, rfl⟩ := hp
    rw [e9] at hW
    exact z_iret hx hb hr hK hS (Nat.le_of_ble_eq_true rfl) (Nat.le_of_ble_eq_true rfl) hlocks dX11_count_133 (shX, ad, IX, JX, PX ad) hW (by show _ = fr_count a1; unfold fr_count; split <;> first | rfl | (rename_i q; exfalso; simp only [Int32.lt_iff_toInt_lt, Int32.le_iff_toInt_le, ← Int32.toInt_inj, z_l0, z_l1, z_l2, z_l3, z_l4, z_l5, z_l6, z_l7, z_l8, z_l9, z_l10, z_l11, z_l12] at q q1 q2 q3 q4 q5 q6 q7 q8 q9; omega))
  by_cases q10 : a1 = 9
  · refine lv_tableIn (tgt := 134) hx hb dX11_count_1 (by rw [q10]; decide) (by rw [q10]; decide) (by rw [q10]; rfl) (by decide) ?_
    refine lv_aload_n hx hb dX11_count_134 rfl (lv_at hl 0 rfl) ?_
    refine z_get (T := TX11) (N := 13) (ci := 11) (i := 0) (v := .ref (ad 26)) hx hb hts zi_X11_count_X11 hown hK hW rfl rfl 5 (by decide) (hts (.fieldLink RX11 37 "PetrolBoard" "coupons" "LPetrolBoard$Coupons;") (List.mem_of_getElem? (i := 7) rfl)) (fun _ h => h) rfl dX11_count_135 ?_
    refine z_get (T := TX0) (N := 5) (ci := 0) (i := 26) (v := .int 0) hx hb hts zi_X11_count_X0 hown hK hW rfl rfl 4 (by decide) (hts (.fieldLink RX11 419 "PetrolBoard$Coupons" "lentNumber" "I") (List.mem_of_getElem? (i := 12) rfl)) (fun _ h => h) rfl dX11_count_138 ?_
    exact z_iret hx hb hr hK hS (Nat.le_of_ble_eq_true rfl) (Nat.le_of_ble_eq_true rfl) hlocks dX11_count_141 (shX, ad, IX, JX, PX ad) hW (by show _ = fr_count a1; unfold fr_count; split <;> first | rfl | (rename_i q; exfalso; simp only [Int32.lt_iff_toInt_lt, Int32.le_iff_toInt_le, ← Int32.toInt_inj, z_l0, z_l1, z_l2, z_l3, z_l4, z_l5, z_l6, z_l7, z_l8, z_l9, z_l10, z_l11, z_l12] at q q1 q2 q3 q4 q5 q6 q7 q8 q9 q10; omega))
  by_cases q11 : a1 = 10
  · refine lv_tableIn (tgt := 142) hx hb dX11_count_1 (by rw [q11]; decide) (by rw [q11]; decide) (by rw [q11]; rfl) (by decide) ?_
    refine lv_aload_n hx hb dX11_count_142 rfl (lv_at hl 0 rfl) ?_
    refine z_get (T := TX11) (N := 13) (ci := 11) (i := 0) (v := .ref (ad 41)) hx hb hts zi_X11_count_X11 hown hK hW rfl rfl 10 (by decide) (hts (.fieldLink RX11 61 "PetrolBoard" "loads" "LPetrolBoard$Loads;") (List.mem_of_getElem? (i := 13) rfl)) (fun _ h => h) rfl dX11_count_143 ?_
    refine z_get (T := TX4) (N := 13) (ci := 4) (i := 41) (v := .int 0) hx hb hts zi_X11_count_X4 hown hK hW rfl rfl 10 (by decide) (hts (.fieldLink RX11 422 "PetrolBoard$Loads" "ports" "I") (List.mem_of_getElem? (i := 14) rfl)) (fun _ h => h) rfl dX11_count_146 ?_
    exact z_iret hx hb hr hK hS (Nat.le_of_ble_eq_true rfl) (Nat.le_of_ble_eq_true rfl) hlocks dX11_count_149 (shX, ad, IX, JX, PX ad) hW (by show _ = fr_count a1; unfold fr_count; split <;> first | rfl | (rename_i q; exfalso; simp only [Int32.lt_iff_toInt_lt, Int32.le_iff_toInt_le, ← Int32.toInt_inj, z_l0, z_l1, z_l2, z_l3, z_l4, z_l5, z_l6, z_l7, z_l8, z_l9, z_l10, z_l11, z_l12] at q q1 q2 q3 q4 q5 q6 q7 q8 q9 q10 q11; omega))
  by_cases q12 : a1 = 11
  · refine lv_tableIn (tgt := 150) hx hb dX11_count_1 (by rw [q12]; decide) (by rw [q12]; decide) (by rw [q12]; rfl) (by decide) ?_
    refine lv_aload_n hx hb dX11_count_150 rfl (lv_at hl 0 rfl) ?_
    refine z_get (T := TX11) (N := 13) (ci := 11) (i := 0) (v := .ref (ad 60)) hx hb hts zi_X11_count_X11 hown hK hW rfl rfl 11 (by decide) (hts (.fieldLink RX11 68 "PetrolBoard" "journeys" "LPetrolBoard$Journeys;") (List.mem_of_getElem? (i := 15) rfl)) (fun _ h => h) rfl dX11_count_151 ?_
    refine z_get (T := TX3) (N := 17) (ci := 3) (i := 60) (v := .int 0) hx hb hts zi_X11_count_X3 hown hK hW rfl rfl 9 (by decide) (hts (.fieldLink RX11 425 "PetrolBoard$Journeys" "number" "I") (List.mem_of_getElem? (i := 16) rfl)) (fun _ h => h) rfl dX11_count_154 ?_
    exact z_iret hx hb hr hK hS (Nat.le_of_ble_eq_true rfl) (Nat.le_of_ble_eq_true rfl) hlocks dX11_count_157 (shX, ad, IX, JX, PX ad) hW (by show _ = fr_count a1; unfold fr_count; split <;> first | rfl | (rename_i q; exfalso; simp only [Int32.lt_iff_toInt_lt, Int32.le_iff_toInt_le, ← Int32.toInt_inj, z_l0, z_l1, z_l2, z_l3, z_l4, z_l5, z_l6, z_l7, z_l8, z_l9, z_l10, z_l11, z_l12] at q q1 q2 q3 q4 q5 q6 q7 q8 q9 q10 q11 q12; omega))
  by_cases q13 : a1 = 12
  · refine lv_tableIn (tgt := 158) hx hb dX11_count_1 (by rw [q13]; decide) (by rw [q13]; decide) (by rw [q13]; rfl) (by decide) ?_
    refine lv_aload_n hx hb dX11_count_158 rfl (lv_at hl 0 rfl) ?_
    refine z_get (T := TX11) (N := 13) (ci := 11) (i := 0) (v := .ref (ad 12)) hx hb hts zi_X11_count_X11 hown hK hW rfl rfl 3 (by decide) (hts (.fieldLink RX11 23 "PetrolBoard" "reader" "LPetrolBoard$Reader;") (List.mem_of_getElem? (i := 17) rfl)) (fun _ h => h) rfl dX11_count_159 ?_
    refine z_get (T := TX9) (N := 14) (ci := 9) (i := 12) (v := .int 0) hx hb hts zi_X11_count_X9 hown hK hW rfl rfl 1 (by decide) (hts (.fieldLink RX11 115 "PetrolBoard$Reader" "taped" "I") (List.mem_of_getElem? (i := 18) rfl)) (fun _ h => h) rfl dX11_count_162 ?_
    exact z_iret hx hb hr hK hS (Nat.le_of_ble_eq_true rfl) (Nat.le_of_ble_eq_true rfl) hlocks dX11_count_165 (shX, ad, IX, JX, PX ad) hW (by show _ = fr_count a1; unfold fr_count; split <;> first | rfl | (rename_i q; exfalso; simp only [Int32.lt_iff_toInt_lt, Int32.le_iff_toInt_le, ← Int32.toInt_inj, z_l0, z_l1, z_l2, z_l3, z_l4, z_l5, z_l6, z_l7, z_l8, z_l9, z_l10, z_l11, z_l12] at q q1 q2 q3 q4 q5 q6 q7 q8 q9 q10 q11 q12 q13; omega))
  refine lv_tableOut (tgt := 166) hx hb dX11_count_1 (by simp only [← Int32.toInt_inj, z_l0, z_l1, z_l2, z_l3, z_l4, z_l5, z_l6, z_l7, z_l8, z_l9, z_l10, z_l11, z_l12] at q1 q2 q3 q4 q5 q6 q7 q8 q9 q10 q11 q12 q13; omega) (by decide) ?_
  refine lv_iconst (v := (-1)) hx hb dX11_count_166 (by decide) ?_
  exact z_iret hx hb hr hK hS (Nat.le_of_ble_eq_true rfl) (Nat.le_of_ble_eq_true rfl) hlocks dX11_count_167 (shX, ad, IX, JX, PX ad) hW (by show _ = fr_count a1; unfold fr_count; split <;> first | rfl | (rename_i q; exfalso; simp only [Int32.lt_iff_toInt_lt, Int32.le_iff_toInt_le, ← Int32.toInt_inj, z_l0, z_l1, z_l2, z_l3, z_l4, z_l5, z_l6, z_l7, z_l8, z_l9, z_l10, z_l11, z_l12] at q q1 q2 q3 q4 q5 q6 q7 q8 q9 q10 q11 q12 q13; omega))
theorem zi_X11_other_X11 : ∀ w ∈ wsX110, w ∈ wsX11_other := fun w h => (List.mem_cons_of_mem _ (List.mem_append_left _ (List.mem_append_left _ (List.mem_append_left _ (List.mem_append_left _ (List.mem_append_left _ (List.mem_append_right _ h)))))))
set_option maxHeartbeats 4000000 in
set_option maxRecDepth 100000 in
theorem ct_X11_other (l : Launch) (G : z_G) (ad : Nat → Nat) (a1 : Int32) (a2 : Int32) (a3 : Int32) (a4 : Int32) : z_M l yX11_other wsX11_other { frames := 3, cells := 0, slots := 0, locals := 54 } [.ref (ad 0), .int a1, .int a2, .int a3, .int a4] G (shX, ad, IX, JX, PX ad) (fun r u1 => r = (-1)) 0 0 := by
  intro sz
  refine z_headQ (cc := cX11_other) (maxL := 5) (ret := (some .int)) (by decide) rfl (Nat.le_of_ble_eq_true rfl) ?_
  intro p e s m below meth c ls hIn hK hsz hW hl
  obtain ⟨hx, hb, hr, hml, hown, hts, hlocks, hname⟩ := hIn
  subst hsz
  have hown : s.vm.findClass RX11 = some m.cls := hown
  have hA : ∀ q : Nat, s.heap.size ≤ q → z_A (shX, ad, IX, JX, PX ad) s.heap.size q := fun q h => Or.inr h
  generalize hAe : z_A (shX, ad, IX, JX, PX ad) s.heap.size = A at *
  have hS : va_S A s.heap s.heap [] := va_S.rf
  have hl : lv_has ls 5 [(0, .ref (ad 0)), (1, .int a1), (2, .int a2), (3, .int a3), (4, .int a4)] := hl
  refine lv_iload_n hx hb dX11_other_0 rfl (lv_at hl 1 rfl) ?_
  refine lv_iconst (v := 0) hx hb dX11_other_1 (by decide) ?_
  refine lv_iconst (v := 2) hx hb dX11_other_2 (by decide) ?_
  refine z_ci hW hS hA (va_runS (As := [.int a1, .int 0, .int 2]) (rest := []) ⟨hx, hb, hml, hown, hts⟩ (ct_X11_within l G (shX, ad, IX, JX, PX ad) a1 0 2 _) (va_cwS 3 hts gX11_other_X11_within rfl rfl rfl (by decide +kernel) ⟨Nat.le_of_ble_eq_true rfl, Nat.le_of_ble_eq_true rfl⟩) (z_preS hK hW) rfl rfl hl.1 rfl (lv_room (Nat.le_of_ble_eq_true rfl)) dX11_other_3 ⟨Nat.le_of_ble_eq_true rfl, Nat.le_of_ble_eq_true rfl⟩) (fun r u1 H locs hp hW hS => ?_)
  obtain ⟨e9, hp⟩ := hp
  rw [e9] at hW
  rcases hp with ⟨rfl, h1, h2⟩ | ⟨rfl, h3⟩
  · refine lv_if_eq (tgt := 37) hx hb dX11_other_6 (by decide) (fun c4 => absurd c4 (by decide)) (fun c4 => ?_)
    refine lv_iload_n hx hb dX11_other_9 rfl (lv_at hl 2 rfl) ?_
    refine z_ci hW hS hA (va_runS (As := [.int a2]) (rest := []) ⟨hx, hb, hml, hown, hts⟩ (ct_X11_isMonth l G (shX, ad, IX, JX, PX ad) a2 _) (va_cwS 1 hts gX11_other_X11_isMonth rfl rfl rfl (by decide +kernel) ⟨Nat.le_of_ble_eq_true rfl, Nat.le_of_ble_eq_true rfl⟩) (z_preS hK hW) rfl rfl hl.1 rfl (lv_room (Nat.le_of_ble_eq_true rfl)) dX11_other_10 ⟨Nat.le_of_ble_eq_true rfl, Nat.le_of_ble_eq_true rfl⟩) (fun r u1 H locs hp hW hS => ?_)
    obtain ⟨e9, hp⟩ := hp
    rw [e9] at hW
    rcases hp with ⟨rfl, h5, h6⟩ | ⟨rfl, h7⟩
    · refine lv_if_eq (tgt := 37) hx hb dX11_other_13 (by decide) (fun c8 => absurd c8 (by decide)) (fun c8 => ?_)
      refine lv_aload_n hx hb dX11_other_16 rfl (lv_at hl 0 rfl) ?_
      refine z_get (T := TX11) (N := 13) (ci := 11) (i := 0) (v := .ref (ad 1)) hx hb hts zi_X11_other_X11 hown hK hW rfl rfl 2 (by decide) (hts (.fieldLink RX11 16 "PetrolBoard" "holders" "LPetrolBoard$Holders;") (List.mem_of_getElem? (i := 1) rfl)) (fun _ h => h) rfl dX11_other_17 ?_
      refine lv_iload_n hx hb dX11_other_20 rfl (lv_at hl 3 rfl) ?_
      refine z_ci hW hS hA (va_runV (As := [.int a3]) (rest := []) ⟨hx, hb, hml, hown, hts⟩ (ct_X2_has l G ad a3 _) (cwV 1 hts gX11_other_X2_has rfl rfl rfl (by decide +kernel) ⟨Nat.le_of_ble_eq_true rfl, Nat.le_of_ble_eq_true rfl⟩) (z_preV hK hW rfl rfl) rfl rfl hl.1 rfl (lv_room (Nat.le_of_ble_eq_true rfl)) dX11_other_21 ⟨Nat.le_of_ble_eq_true rfl, Nat.le_of_ble_eq_true rfl⟩) (fun r u1 H locs hp hW hS => ?_)
      obtain ⟨e9, rfl⟩ := hp
      rw [e9] at hW
      refine lv_if_eq (tgt := 37) hx hb dX11_other_24 (by decide) (fun c9 => ?_) (fun c9 => absurd (by decide) c9)
      refine lv_iconst (v := (-1)) hx hb dX11_other_37 (by decide) ?_
      exact z_iret hx hb hr hK hS (Nat.le_of_ble_eq_true rfl) (Nat.le_of_ble_eq_true rfl) hlocks dX11_other_38 (shX, ad, IX, JX, PX ad) hW rfl
    · refine lv_if_eq (tgt := 37) hx hb dX11_other_13 (by decide) (fun c10 => ?_) (fun c10 => absurd (by decide) c10)
      refine lv_iconst (v := (-1)) hx hb dX11_other_37 (by decide) ?_
      exact z_iret hx hb hr hK hS (Nat.le_of_ble_eq_true rfl) (Nat.le_of_ble_eq_true rfl) hlocks dX11_other_38 (shX, ad, IX, JX, PX ad) hW rfl
  · refine lv_if_eq (tgt := 37) hx hb dX11_other_6 (by decide) (fun c11 => ?_) (fun c11 => absurd (by decide) c11)
    refine lv_iconst (v := (-1)) hx hb dX11_other_37 (by decide) ?_
    exact z_iret hx hb hr hK hS (Nat.le_of_ble_eq_true rfl) (Nat.le_of_ble_eq_true rfl) hlocks dX11_other_38 (shX, ad, IX, JX, PX ad) hW rfl
theorem zi_X11_poured_X11 : ∀ w ∈ wsX110, w ∈ wsX11_poured := fun w h => (List.mem_cons_of_mem _ (List.mem_append_left _ (List.mem_append_right _ h)))
set_option maxHeartbeats 4000000 in
set_option maxRecDepth 100000 in
theorem ct_X11_poured (l : Launch) (G : z_G) (ad : Nat → Nat) (a1 : Int32) (a2 : Int32) : z_M l yX11_poured wsX11_poured { frames := 3, cells := 0, slots := 0, locals := 55 } [.ref (ad 0), .int a1, .int a2] G (shX, ad, IX, JX, PX ad) (fun r u1 => r = (-1)) 0 0 := by
  intro sz
  refine z_headQ (cc := cX11_poured) (maxL := 3) (ret := (some .int)) (by decide) rfl (Nat.le_of_ble_eq_true rfl) ?_
  intro p e s m below meth c ls hIn hK hsz hW hl
  obtain ⟨hx, hb, hr, hml, hown, hts, hlocks, hname⟩ := hIn
  subst hsz
  have hown : s.vm.findClass RX11 = some m.cls := hown
  have hA : ∀ q : Nat, s.heap.size ≤ q → z_A (shX, ad, IX, JX, PX ad) s.heap.size q := fun q h => Or.inr h
  generalize hAe : z_A (shX, ad, IX, JX, PX ad) s.heap.size = A at *
  have hS : va_S A s.heap s.heap [] := va_S.rf
  have hl : lv_has ls 3 [(0, .ref (ad 0)), (1, .int a1), (2, .int a2)] := hl
  refine lv_aload_n hx hb dX11_poured_0 rfl (lv_at hl 0 rfl) ?_
  refine z_get (T := TX11) (N := 13) (ci := 11) (i := 0) (v := .ref (ad 30)) hx hb hts zi_X11_poured_X11 hown hK hW rfl rfl 6 (by decide) (hts (.fieldLink RX11 44 "PetrolBoard" "pours" "LPetrolBoard$Pours;") (List.mem_of_getElem? (i := 1) rfl)) (fun _ h => h) rfl dX11_poured_1 ?_
  refine lv_iload_n hx hb dX11_poured_4 rfl (lv_at hl 1 rfl) ?_
  refine lv_iload_n hx hb dX11_poured_5 rfl (lv_at hl 2 rfl) ?_
  refine z_ci hW hS hA (va_runV (As := [.int a1, .int a2]) (rest := []) ⟨hx, hb, hml, hown, hts⟩ (ct_X8_tell l G ad a1 a2 _) (cwV 2 hts gX11_poured_X8_tell rfl rfl rfl (by decide +kernel) ⟨Nat.le_of_ble_eq_true rfl, Nat.le_of_ble_eq_true rfl⟩) (z_preV hK hW rfl rfl) rfl rfl hl.1 rfl (lv_room (Nat.le_of_ble_eq_true rfl)) dX11_poured_6 ⟨Nat.le_of_ble_eq_true rfl, Nat.le_of_ble_eq_true rfl⟩) (fun r u1 H locs hp hW hS => ?_)
  obtain ⟨e9, rfl⟩ := hp
  rw [e9] at hW
  exact z_iret hx hb hr hK hS (Nat.le_of_ble_eq_true rfl) (Nat.le_of_ble_eq_true rfl) hlocks dX11_poured_9 (shX, ad, IX, JX, PX ad) hW rfl
theorem zi_X12_port_X12 : ∀ w ∈ wsX120, w ∈ wsX12_port := fun w h => (List.mem_cons_of_mem _ (List.mem_append_right _ h))
set_option maxHeartbeats 4000000 in
set_option maxRecDepth 100000 in
theorem ct_X12_port (l : Launch) (G : z_G) (ad : Nat → Nat) (a1 : Int32) : z_M l yX12_port wsX12_port { frames := 2, cells := 0, slots := 0, locals := 34 } [.ref (ad 0), .int a1] G (shM, ad, IM, JM, PM ad) (fun r u1 => r = fr_port a1) 0 0 := by
  intro sz
  refine z_headQ (cc := cX12_port) (maxL := 2) (ret := (some .int)) (by decide) rfl (Nat.le_of_ble_eq_true rfl) ?_
  intro p e s m below meth c ls hIn hK hsz hW hl
  obtain ⟨hx, hb, hr, hml, hown, hts, hlocks, hname⟩ := hIn
  subst hsz
  have hown : s.vm.findClass RX12 = some m.cls := hown
  have hA : ∀ q : Nat, s.heap.size ≤ q → z_A (shM, ad, IM, JM, PM ad) s.heap.size q := fun q h => Or.inr h
  generalize hAe : z_A (shM, ad, IM, JM, PM ad) s.heap.size = A at *
  have hS : va_S A s.heap s.heap [] := va_S.rf
  have hl : lv_has ls 2 [(0, .ref (ad 0)), (1, .int a1)] := hl
  refine lv_iload_n hx hb dX12_port_0 rfl (lv_at hl 1 rfl) ?_
  refine lv_iconst (v := 0) hx hb dX12_port_1 (by decide) ?_
  refine lv_bipush (v := 50) hx hb dX12_port_2 (by decide) ?_
  refine z_ci hW hS hA (va_runS (As := [.int a1, .int 0, .int 50]) (rest := []) ⟨hx, hb, hml, hown, hts⟩ (ct_X12_within l G (shM, ad, IM, JM, PM ad) a1 0 50 _) (va_cwS 3 hts gX12_port_X12_within rfl rfl rfl (by decide +kernel) ⟨Nat.le_of_ble_eq_true rfl, Nat.le_of_ble_eq_true rfl⟩) (z_preS hK hW) rfl rfl hl.1 rfl (lv_room (Nat.le_of_ble_eq_true rfl)) dX12_port_4 ⟨Nat.le_of_ble_eq_true rfl, Nat.le_of_ble_eq_true rfl⟩) (fun r u1 H locs hp hW hS => ?_)
  obtain ⟨e9, hp⟩ := hp
  rw [e9] at hW
  rcases hp with ⟨rfl, h1, h2⟩ | ⟨rfl, h3⟩
  · refine lv_if_eq (tgt := 18) hx hb dX12_port_7 (by decide) (fun c4 => absurd c4 (by decide)) (fun c4 => ?_)
    refine lv_aload_n hx hb dX12_port_10 rfl (lv_at hl 0 rfl) ?_
    refine z_get (T := TX12) (N := 96) (ci := 12) (i := 0) (v := .int 0) hx hb hts zi_X12_port_X12 hown hK hW rfl rfl 75 (by decide) (hts (.fieldLink RX12 493 "PetrolBoardModel" "ports" "I") (List.mem_of_getElem? (i := 1) rfl)) (fun _ h => h) rfl dX12_port_11 ?_
    refine lv_iconst (v := 4) hx hb dX12_port_14 (by decide) ?_
    refine lv_icmp_ne (tgt := 20) hx hb dX12_port_15 (by decide) (fun c5 => ?_) (fun c5 => absurd c5 (by decide))
    refine lv_aload_n hx hb dX12_port_20 rfl (lv_at hl 0 rfl) ?_
    refine z_get (T := TX12) (N := 96) (ci := 12) (i := 0) (v := .ref (ad 52)) hx hb hts zi_X12_port_X12 hown hK hW rfl rfl 76 (by decide) (hts (.fieldLink RX12 172 "PetrolBoardModel" "loadsOf" "[I") (List.mem_of_getElem? (i := 2) rfl)) (fun _ h => h) rfl dX12_port_21 ?_
    refine lv_aload_n hx hb dX12_port_24 rfl (lv_at hl 0 rfl) ?_
    refine z_get (T := TX12) (N := 96) (ci := 12) (i := 0) (v := .int 0) hx hb hts zi_X12_port_X12 hown hK hW rfl rfl 75 (by decide) (hts (.fieldLink RX12 493 "PetrolBoardModel" "ports" "I") (List.mem_of_getElem? (i := 1) rfl)) (fun _ h => h) rfl dX12_port_25 ?_
    refine lv_iload_n hx hb dX12_port_28 rfl (lv_at hl 1 rfl) ?_
    refine z_iast (i := 52) hx hb hK hW hS rfl (z_inl (by decide)) dX12_port_29 (fun H locs hz1 hW hS => ?_)
    refine lv_aload_n hx hb dX12_port_30 rfl (lv_at hl 0 rfl) ?_
    refine lv_dup hx hb dX12_port_31 rfl ?_
    refine z_get (T := TX12) (N := 96) (ci := 12) (i := 0) (v := .int 0) hx hb hts zi_X12_port_X12 hown hK hW rfl rfl 75 (by decide) (hts (.fieldLink RX12 493 "PetrolBoardModel" "ports" "I") (List.mem_of_getElem? (i := 1) rfl)) (fun _ h => h) rfl dX12_port_32 ?_
    refine lv_iconst (v := 1) hx hb dX12_port_35 (by decide) ?_
    refine lv_iadd hx hb dX12_port_36 ?_
    refine z_topi (v := 1) (by decide) ?_
    refine z_put (T := TX12) (N := 96) (ci := 12) (i := 0) (v := .int 1) (I1 := (z_up (z_up IM 52 (0 : Int32).toNatClampNeg a1) 0 75 1)) (J1 := JM) (P1 := PM ad) hx hb hts zi_X12_port_X12 tyX12 tyX12_ok nmX12 hown hK hW hS rfl rfl 75 (by decide) (hts (.fieldLink RX12 493 "PetrolBoardModel" "ports" "I") (List.mem_of_getElem? (i := 1) rfl)) (fun _ h => h) rfl rfl rfl (by first | rfl | exact congrArg _ z_up_s) (fun a b h ty => z_vI h ty) dX12_port_37 (fun H locs hz1 hW hS => ?_)
    refine lv_aload_n hx hb dX12_port_40 rfl (lv_at hl 0 rfl) ?_
    refine z_get (T := TX12) (N := 96) (ci := 12) (i := 0) (v := .int 1) hx hb hts zi_X12_port_X12 hown hK hW rfl rfl 75 (by decide) (hts (.fieldLink RX12 493 "PetrolBoardModel" "ports" "I") (List.mem_of_getElem? (i := 1) rfl)) (fun _ h => h) rfl dX12_port_41 ?_
    refine lv_iconst (v := 1) hx hb dX12_port_44 (by decide) ?_
    refine lv_isub hx hb dX12_port_45 ?_
    refine z_topi (v := 0) (by decide) ?_
    exact z_iret hx hb hr hK hS (Nat.le_of_ble_eq_true rfl) (Nat.le_of_ble_eq_true rfl) hlocks dX12_port_46 (shM, ad, (z_up (z_up IM 52 (0 : Int32).toNatClampNeg a1) 0 75 1), JM, PM ad) hW (by show _ = fr_port a1; unfold fr_port; split <;> first | rfl | (rename_i q; exfalso; simp only [Int32.lt_iff_toInt_lt, Int32.le_iff_toInt_le, ← Int32.toInt_inj, z_l0, z_l1, z_l50] at q h1 h2; omega))
  · refine lv_if_eq (tgt := 18) hx hb dX12_port_7 (by decide) (fun c6 => ?_) (fun c6 => absurd (by decide) c6)
    refine lv_iconst (v := (-1)) hx hb dX12_port_18 (by decide) ?_
    exact z_iret hx hb hr hK hS (Nat.le_of_ble_eq_true rfl) (Nat.le_of_ble_eq_true rfl) hlocks dX12_port_19 (shM, ad, IM, JM, PM ad) hW (by show _ = fr_port a1; unfold fr_port; split <;> first | rfl | (rename_i q; exfalso; simp only [Int32.lt_iff_toInt_lt, Int32.le_iff_toInt_le, ← Int32.toInt_inj, z_l0, z_l1, z_l50] at q h3 h3; omega))
theorem zi_X12_holder_X12 : ∀ w ∈ wsX120, w ∈ wsX12_holder := fun w h => (List.mem_cons_of_mem _ (List.mem_append_right _ h))
set_option maxHeartbeats 4000000 in
set_option maxRecDepth 100000 in
theorem ct_X12_holder (l : Launch) (G : z_G) (ad : Nat → Nat) (a1 : Int32) (a2 : Int32) (a3 : Int32) (a4 : Int32) (a5 : Int32) : z_M l yX12_holder wsX12_holder { frames := 2, cells := 0, slots := 0, locals := 34 } [.ref (ad 0), .int a1, .int a2, .int a3, .int a4, .int a5] G (shM, ad, IM, JM, PM ad) (fun r u1 => r = fr_holder a1 a2 a3 a4 a5) 0 0 := by
  intro sz
  refine z_headQ (cc := cX12_holder) (maxL := 6) (ret := (some .int)) (by decide) rfl (Nat.le_of_ble_eq_true rfl) ?_
  intro p e s m below meth c ls hIn hK hsz hW hl
  obtain ⟨hx, hb, hr, hml, hown, hts, hlocks, hname⟩ := hIn
  subst hsz
  have hown : s.vm.findClass RX12 = some m.cls := hown
  have hA : ∀ q : Nat, s.heap.size ≤ q → z_A (shM, ad, IM, JM, PM ad) s.heap.size q := fun q h => Or.inr h
  generalize hAe : z_A (shM, ad, IM, JM, PM ad) s.heap.size = A at *
  have hS : va_S A s.heap s.heap [] := va_S.rf
  have hl : lv_has ls 6 [(0, .ref (ad 0)), (1, .int a1), (2, .int a2), (3, .int a3), (4, .int a4), (5, .int a5)] := hl
  refine lv_iload_n hx hb dX12_holder_0 rfl (lv_at hl 1 rfl) ?_
  refine lv_iconst (v := 1) hx hb dX12_holder_1 (by decide) ?_
  refine lv_bipush (v := 9) hx hb dX12_holder_2 (by decide) ?_
  refine z_ci hW hS hA (va_runS (As := [.int a1, .int 1, .int 9]) (rest := []) ⟨hx, hb, hml, hown, hts⟩ (ct_X12_within l G (shM, ad, IM, JM, PM ad) a1 1 9 _) (va_cwS 3 hts gX12_holder_X12_within rfl rfl rfl (by decide +kernel) ⟨Nat.le_of_ble_eq_true rfl, Nat.le_of_ble_eq_true rfl⟩) (z_preS hK hW) rfl rfl hl.1 rfl (lv_room (Nat.le_of_ble_eq_true rfl)) dX12_holder_4 ⟨Nat.le_of_ble_eq_true rfl, Nat.le_of_ble_eq_true rfl⟩) (fun r u1 H locs hp hW hS => ?_)
  obtain ⟨e9, hp⟩ := hp
  rw [e9] at hW
  rcases hp with ⟨rfl, h1, h2⟩ | ⟨rfl, h3⟩
  · refine lv_if_eq (tgt := 62) hx hb dX12_holder_7 (by decide) (fun c4 => absurd c4 (by decide)) (fun c4 => ?_)
    refine lv_iload_n hx hb dX12_holder_10 rfl (lv_at hl 2 rfl) ?_
    refine lv_iconst (v := 0) hx hb dX12_holder_11 (by decide) ?_
    refine lv_bipush (v := 9) hx hb dX12_holder_12 (by decide) ?_
    refine z_ci hW hS hA (va_runS (As := [.int a2, .int 0, .int 9]) (rest := []) ⟨hx, hb, hml, hown, hts⟩ (ct_X12_within l G (shM, ad, IM, JM, PM ad) a2 0 9 _) (va_cwS 3 hts gX12_holder_X12_within rfl rfl rfl (by decide +kernel) ⟨Nat.le_of_ble_eq_true rfl, Nat.le_of_ble_eq_true rfl⟩) (z_preS hK hW) rfl rfl hl.1 rfl (lv_room (Nat.le_of_ble_eq_true rfl)) dX12_holder_14 ⟨Nat.le_of_ble_eq_true rfl, Nat.le_of_ble_eq_true rfl⟩) (fun r u1 H locs hp hW hS => ?_)
    obtain ⟨e9, hp⟩ := hp
    rw [e9] at hW
    rcases hp with ⟨rfl, h5, h6⟩ | ⟨rfl, h7⟩
    · refine lv_if_eq (tgt := 62) hx hb dX12_holder_17 (by decide) (fun c8 => absurd c8 (by decide)) (fun c8 => ?_)
      refine lv_iload_n hx hb dX12_holder_20 rfl (lv_at hl 3 rfl) ?_
      refine lv_iconst (v := 1) hx hb dX12_holder_21 (by decide) ?_
      refine lv_bipush (v := 8) hx hb dX12_holder_22 (by decide) ?_
      refine z_ci hW hS hA (va_runS (As := [.int a3, .int 1, .int 8]) (rest := []) ⟨hx, hb, hml, hown, hts⟩ (ct_X12_within l G (shM, ad, IM, JM, PM ad) a3 1 8 _) (va_cwS 3 hts gX12_holder_X12_within rfl rfl rfl (by decide +kernel) ⟨Nat.le_of_ble_eq_true rfl, Nat.le_of_ble_eq_true rfl⟩) (z_preS hK hW) rfl rfl hl.1 rfl (lv_room (Nat.le_of_ble_eq_true rfl)) dX12_holder_24 ⟨Nat.le_of_ble_eq_true rfl, Nat.le_of_ble_eq_true rfl⟩) (fun r u1 H locs hp hW hS => ?_)
      obtain ⟨e9, hp⟩ := hp
      rw [e9] at hW
      rcases hp with ⟨rfl, h9, h10⟩ | ⟨rfl, h11⟩
      · refine lv_if_eq (tgt := 62) hx hb dX12_holder_27 (by decide) (fun c12 => absurd c12 (by decide)) (fun c12 => ?_)
        refine lv_iload hx hb dX12_holder_30 (lv_at hl 4 rfl) ?_
        refine lv_iconst (v := 0) hx hb dX12_holder_32 (by decide) ?_
        refine lv_sipush (v := 999) hx hb dX12_holder_33 (by decide) ?_
        refine z_ci hW hS hA (va_runS (As := [.int a4, .int 0, .int 999]) (rest := []) ⟨hx, hb, hml, hown, hts⟩ (ct_X12_within l G (shM, ad, IM, JM, PM ad) a4 0 999 _) (va_cwS 3 hts gX12_holder_X12_within rfl rfl rfl (by decide +kernel) ⟨Nat.le_of_ble_eq_true rfl, Nat.le_of_ble_eq_true rfl⟩) (z_preS hK hW) rfl rfl hl.1 rfl (lv_room (Nat.le_of_ble_eq_true rfl)) dX12_holder_36 ⟨Nat.le_of_ble_eq_true rfl, Nat.le_of_ble_eq_true rfl⟩) (fun r u1 H locs hp hW hS => ?_)
        obtain ⟨e9, hp⟩ := hp
        rw [e9] at hW
        rcases hp with ⟨rfl, h13, h14⟩ | ⟨rfl, h15⟩
        · refine lv_if_eq (tgt := 62) hx hb dX12_holder_39 (by decide) (fun c16 => absurd c16 (by decide)) (fun c16 => ?_)
          refine lv_iload hx hb dX12_holder_42 (lv_at hl 5 rfl) ?_
          refine lv_iconst (v := 0) hx hb dX12_holder_44 (by decide) ?_
          refine lv_bipush (v := 99) hx hb dX12_holder_45 (by decide) ?_
          refine z_ci hW hS hA (va_runS (As := [.int a5, .int 0, .int 99]) (rest := []) ⟨hx, hb, hml, hown, hts⟩ (ct_X12_within l G (shM, ad, IM, JM, PM ad) a5 0 99 _) (va_cwS 3 hts gX12_holder_X12_within rfl rfl rfl (by decide +kernel) ⟨Nat.le_of_ble_eq_true rfl, Nat.le_of_ble_eq_true rfl⟩) (z_preS hK hW) rfl rfl hl.1 rfl (lv_room (Nat.le_of_ble_eq_true rfl)) dX12_holder_47 ⟨Nat.le_of_ble_eq_true rfl, Nat.le_of_ble_eq_true rfl⟩) (fun r u1 H locs hp hW hS => ?_)
          obtain ⟨e9, hp⟩ := hp
          rw [e9] at hW
          rcases hp with ⟨rfl, h17, h18⟩ | ⟨rfl, h19⟩
          · refine lv_if_eq (tgt := 62) hx hb dX12_holder_50 (by decide) (fun c20 => absurd c20 (by decide)) (fun c20 => ?_)
            refine lv_aload_n hx hb dX12_holder_53 rfl (lv_at hl 0 rfl) ?_
            refine z_get (T := TX12) (N := 96) (ci := 12) (i := 0) (v := .int 0) hx hb hts zi_X12_holder_X12 hown hK hW rfl rfl 1 (by decide) (hts (.fieldLink RX12 229 "PetrolBoardModel" "holders" "I") (List.mem_of_getElem? (i := 1) rfl)) (fun _ h => h) rfl dX12_holder_54 ?_
            refine lv_bipush (v := 30) hx hb dX12_holder_57 (by decide) ?_
            refine lv_icmp_ne (tgt := 64) hx hb dX12_holder_59 (by decide) (fun c21 => ?_) (fun c21 => absurd c21 (by decide))
            refine lv_aload_n hx hb dX12_holder_64 rfl (lv_at hl 0 rfl) ?_
            refine z_get (T := TX12) (N := 96) (ci := 12) (i := 0) (v := .ref (ad 1)) hx hb hts zi_X12_holder_X12 hown hK hW rfl rfl 3 (by decide) (hts (.fieldLink RX12 7 "PetrolBoardModel" "sizeOf" "[I") (List.mem_of_getElem? (i := 2) rfl)) (fun _ h => h) rfl dX12_holder_65 ?_
            refine lv_aload_n hx hb dX12_holder_68 rfl (lv_at hl 0 rfl) ?_
            refine z_get (T := TX12) (N := 96) (ci := 12) (i := 0) (v := .int 0) hx hb hts zi_X12_holder_X12 hown hK hW rfl rfl 1 (by decide) (hts (.fieldLink RX12 229 "PetrolBoardModel" "holders" "I") (List.mem_of_getElem? (i := 1) rfl)) (fun _ h => h) rfl dX12_holder_69 ?_
            refine lv_iload_n hx hb dX12_holder_72 rfl (lv_at hl 1 rfl) ?_
            refine z_iast (i := 1) hx hb hK hW hS rfl (z_inl (by decide)) dX12_holder_73 (fun H locs hz1 hW hS => ?_)
            refine lv_aload_n hx hb dX12_holder_74 rfl (lv_at hl 0 rfl) ?_
            refine z_get (T := TX12) (N := 96) (ci := 12) (i := 0) (v := .ref (ad 2)) hx hb hts zi_X12_holder_X12 hown hK hW rfl rfl 4 (by decide) (hts (.fieldLink RX12 13 "PetrolBoardModel" "townOf" "[I") (List.mem_of_getElem? (i := 3) rfl)) (fun _ h => h) rfl dX12_holder_75 ?_
            refine lv_aload_n hx hb dX12_holder_78 rfl (lv_at hl 0 rfl) ?_
            refine z_get (T := TX12) (N := 96) (ci := 12) (i := 0) (v := .int 0) hx hb hts zi_X12_holder_X12 hown hK hW rfl rfl 1 (by decide) (hts (.fieldLink RX12 229 "PetrolBoardModel" "holders" "I") (List.mem_of_getElem? (i := 1) rfl)) (fun _ h => h) rfl dX12_holder_79 ?_
            refine lv_iload_n hx hb dX12_holder_82 rfl (lv_at hl 2 rfl) ?_
            refine z_iast (i := 2) hx hb hK hW hS rfl (z_inl (by decide)) dX12_holder_83 (fun H locs hz1 hW hS => ?_)
            refine lv_aload_n hx hb dX12_holder_84 rfl (lv_at hl 0 rfl) ?_
            refine z_get (T := TX12) (N := 96) (ci := 12) (i := 0) (v := .ref (ad 3)) hx hb hts zi_X12_holder_X12 hown hK hW rfl rfl 5 (by decide) (hts (.fieldLink RX12 16 "PetrolBoardModel" "seatsOf" "[I") (List.mem_of_getElem? (i := 4) rfl)) (fun _ h => h) rfl dX12_holder_85 ?_
            refine lv_aload_n hx hb dX12_holder_88 rfl (lv_at hl 0 rfl) ?_
            refine z_get (T := TX12) (N := 96) (ci := 12) (i := 0) (v := .int 0) hx hb hts zi_X12_holder_X12 hown hK hW rfl rfl 1 (by decide) (hts (.fieldLink RX12 229 "PetrolBoardModel" "holders" "I") (List.mem_of_getElem? (i := 1) rfl)) (fun _ h => h) rfl dX12_holder_89 ?_
            refine lv_iload_n hx hb dX12_holder_92 rfl (lv_at hl 3 rfl) ?_
            refine z_iast (i := 3) hx hb hK hW hS rfl (z_inl (by decide)) dX12_holder_93 (fun H locs hz1 hW hS => ?_)
            refine lv_aload_n hx hb dX12_holder_94 rfl (lv_at hl 0 rfl) ?_
            refine z_get (T := TX12) (N := 96) (ci := 12) (i := 0) (v := .ref (ad 4)) hx hb hts zi_X12_holder_X12 hown hK hW rfl rfl 6 (by decide) (hts (.fieldLink RX12 19 "PetrolBoardModel" "bidOf" "[I") (List.mem_of_getElem? (i := 5) rfl)) (fun _ h => h) rfl dX12_holder_95 ?_
            refine lv_aload_n hx hb dX12_holder_98 rfl (lv_at hl 0 rfl) ?_
            refine z_get (T := TX12) (N := 96) (ci := 12) (i := 0) (v := .int 0) hx hb hts zi_X12_holder_X12 hown hK hW rfl rfl 1 (by decide) (hts (.fieldLink RX12 229 "PetrolBoardModel" "holders" "I") (List.mem_of_getElem? (i := 1) rfl)) (fun _ h => h) rfl dX12_holder_99 ?_
            refine lv_iload hx hb dX12_holder_102 (lv_at hl 4 rfl) ?_
            refine z_iast (i := 4) hx hb hK hW hS rfl (z_inl (by decide)) dX12_holder_104 (fun H locs hz1 hW hS => ?_)
            refine lv_aload_n hx hb dX12_holder_105 rfl (lv_at hl 0 rfl) ?_
            refine z_get (T := TX12) (N := 96) (ci := 12) (i := 0) (v := .ref (ad 5)) hx hb hts zi_X12_holder_X12 hown hK hW rfl rfl 7 (by decide) (hts (.fieldLink RX12 22 "PetrolBoardModel" "needOf" "[I") (List.mem_of_getElem? (i := 6) rfl)) (fun _ h => h) rfl dX12_holder_106 ?_
            refine lv_aload_n hx hb dX12_holder_109 rfl (lv_at hl 0 rfl) ?_
            refine z_get (T := TX12) (N := 96) (ci := 12) (i := 0) (v := .int 0) hx hb hts zi_X12_holder_X12 hown hK hW rfl rfl 1 (by decide) (hts (.fieldLink RX12 229 "PetrolBoardModel" "holders" "I") (List.mem_of_getElem? (i := 1) rfl)) (fun _ h => h) rfl dX12_holder_110 ?_
            refine lv_iload hx hb dX12_holder_113 (lv_at hl 5 rfl) ?_
            refine z_iast (i := 5) hx hb hK hW hS rfl (z_inl (by decide)) dX12_holder_115 (fun H locs hz1 hW hS => ?_)
            refine lv_aload_n hx hb dX12_holder_116 rfl (lv_at hl 0 rfl) ?_
            refine lv_dup hx hb dX12_holder_117 rfl ?_
            refine z_get (T := TX12) (N := 96) (ci := 12) (i := 0) (v := .int 0) hx hb hts zi_X12_holder_X12 hown hK hW rfl rfl 1 (by decide) (hts (.fieldLink RX12 229 "PetrolBoardModel" "holders" "I") (List.mem_of_getElem? (i := 1) rfl)) (fun _ h => h) rfl dX12_holder_118 ?_
            refine lv_iconst (v := 1) hx hb dX12_holder_121 (by decide) ?_
            refine lv_iadd hx hb dX12_holder_122 ?_
            refine z_topi (v := 1) (by decide) ?_
            refine z_put (T := TX12) (N := 96) (ci := 12) (i := 0) (v := .int 1) (I1 := (z_up (z_up (z_up (z_up (z_up (z_up IM 1 (0 : Int32).toNatClampNeg a1) 2 (0 : Int32).toNatClampNeg a2) 3 (0 : Int32).toNatClampNeg a3) 4 (0 : Int32).toNatClampNeg a4) 5 (0 : Int32).toNatClampNeg a5) 0 1 1)) (J1 := JM) (P1 := PM ad) hx hb hts zi_X12_holder_X12 tyX12 tyX12_ok nmX12 hown hK hW hS rfl rfl 1 (by decide) (hts (.fieldLink RX12 229 "PetrolBoardModel" "holders" "I") (List.mem_of_getElem? (i := 1) rfl)) (fun _ h => h) rfl rfl rfl (by first | rfl | exact congrArg _ z_up_s) (fun a b h ty => z_vI h ty) dX12_holder_123 (fun H locs hz1 hW hS => ?_)
            refine lv_aload_n hx hb dX12_holder_126 rfl (lv_at hl 0 rfl) ?_
            refine z_get (T := TX12) (N := 96) (ci := 12) (i := 0) (v := .int 1) hx hb hts zi_X12_holder_X12 hown hK hW rfl rfl 1 (by decide) (hts (.fieldLink RX12 229 "PetrolBoardModel" "holders" "I") (List.mem_of_getElem? (i := 1) rfl)) (fun _ h => h) rfl dX12_holder_127 ?_
            refine lv_iconst (v := 1) hx hb dX12_holder_130 (by decide) ?_
            refine lv_isub hx hb dX12_holder_131 ?_
            refine z_topi (v := 0) (by decide) ?_
            exact z_iret hx hb hr hK hS (Nat.le_of_ble_eq_true rfl) (Nat.le_of_ble_eq_true rfl) hlocks dX12_holder_132 (shM, ad, (z_up (z_up (z_up (z_up (z_up (z_up IM 1 (0 : Int32).toNatClampNeg a1) 2 (0 : Int32).toNatClampNeg a2) 3 (0 : Int32).toNatClampNeg a3) 4 (0 : Int32).toNatClampNeg a4) 5 (0 : Int32).toNatClampNeg a5) 0 1 1), JM, PM ad) hW (by show _ = fr_holder a1 a2 a3 a4 a5; unfold fr_holder; split <;> first | rfl | (rename_i q; exfalso; simp only [Int32.lt_iff_toInt_lt, Int32.le_iff_toInt_le, ← Int32.toInt_inj, z_l0, z_l1, z_l8, z_l9, z_l99, z_l999] at q h1 h2 h5 h6 h9 h10 h13 h14 h17 h18; omega))
          · refine lv_if_eq (tgt := 62) hx hb dX12_holder_50 (by decide) (fun c22 => ?_) (fun c22 => absurd (by decide) c22)
            refine lv_iconst (v := (-1)) hx hb dX12_holder_62 (by decide) ?_
            exact z_iret hx hb hr hK hS (Nat.le_of_ble_eq_true rfl) (Nat.le_of_ble_eq_true rfl) hlocks dX12_holder_63 (shM, ad, IM, JM, PM ad) hW (by show _ = fr_holder a1 a2 a3 a4 a5; unfold fr_holder; split <;> first | rfl | (rename_i q; exfalso; simp only [Int32.lt_iff_toInt_lt, Int32.le_iff_toInt_le, ← Int32.toInt_inj, z_l0, z_l1, z_l8, z_l9, z_l99, z_l999] at q h1 h2 h5 h6 h9 h10 h13 h14 h19 h19; omega))
        · refine lv_if_eq (tgt := 62) hx hb dX12_holder_39 (by decide) (fun c23 => ?_) (fun c23 => absurd (by decide) c23)
          refine lv_iconst (v := (-1)) hx hb dX12_holder_62 (by decide) ?_
          exact z_iret hx hb hr hK hS (Nat.le_of_ble_eq_true rfl) (Nat.le_of_ble_eq_true rfl) hlocks dX12_holder_63 (shM, ad, IM, JM, PM ad) hW (by show _ = fr_holder a1 a2 a3 a4 a5; unfold fr_holder; split <;> first | rfl | (rename_i q; exfalso; simp only [Int32.lt_iff_toInt_lt, Int32.le_iff_toInt_le, ← Int32.toInt_inj, z_l0, z_l1, z_l8, z_l9, z_l99, z_l999] at q h1 h2 h5 h6 h9 h10 h15 h15; omega))
      · refine lv_if_eq (tgt := 62) hx hb dX12_holder_27 (by decide) (fun c24 => ?_) (fun c24 => absurd (by decide) c24)
        refine lv_iconst (v := (-1)) hx hb dX12_holder_62 (by decide) ?_
        exact z_iret hx hb hr hK hS (Nat.le_of_ble_eq_true rfl) (Nat.le_of_ble_eq_true rfl) hlocks dX12_holder_63 (shM, ad, IM, JM, PM ad) hW (by show _ = fr_holder a1 a2 a3 a4 a5; unfold fr_holder; split <;> first | rfl | (rename_i q; exfalso; simp only [Int32.lt_iff_toInt_lt, Int32.le_iff_toInt_le, ← Int32.toInt_inj, z_l0, z_l1, z_l8, z_l9, z_l99, z_l999] at q h1 h2 h5 h6 h11 h11; omega))
    · refine lv_if_eq (tgt := 62) hx hb dX12_holder_17 (by decide) (fun c25 => ?_) (fun c25 => absurd (by decide) c25)
      refine lv_iconst (v := (-1)) hx hb dX12_holder_62 (by decide) ?_
      exact z_iret hx hb hr hK hS (Nat.le_of_ble_eq_true rfl) (Nat.le_of_ble_eq_true rfl) hlocks dX12_holder_63 (shM, ad, IM, JM, PM ad) hW (by show _ = fr_holder a1 a2 a3 a4 a5; unfold fr_holder; split <;> first | rfl | (rename_i q; exfalso; simp only [Int32.lt_iff_toInt_lt, Int32.le_iff_toInt_le, ← Int32.toInt_inj, z_l0, z_l1, z_l8, z_l9, z_l99, z_l999] at q h1 h2 h7 h7; omega))
  · refine lv_if_eq (tgt := 62) hx hb dX12_holder_7 (by decide) (fun c26 => ?_) (fun c26 => absurd (by decide) c26)
    refine lv_iconst (v := (-1)) hx hb dX12_holder_62 (by decide) ?_
    exact z_iret hx hb hr hK hS (Nat.le_of_ble_eq_true rfl) (Nat.le_of_ble_eq_true rfl) hlocks dX12_holder_63 (shM, ad, IM, JM, PM ad) hW (by show _ = fr_holder a1 a2 a3 a4 a5; unfold fr_holder; split <;> first | rfl | (rename_i q; exfalso; simp only [Int32.lt_iff_toInt_lt, Int32.le_iff_toInt_le, ← Int32.toInt_inj, z_l0, z_l1, z_l8, z_l9, z_l99, z_l999] at q h3 h3; omega))
theorem zi_X12_count_X12 : ∀ w ∈ wsX120, w ∈ wsX12_count := fun w h => (List.mem_cons_of_mem _ (List.mem_append_right _ h))
set_option maxHeartbeats 4000000 in
set_option maxRecDepth 100000 in
theorem ct_X12_count (l : Launch) (G : z_G) (ad : Nat → Nat) (a1 : Int32) : z_M l yX12_count wsX12_count { frames := 1, cells := 0, slots := 0, locals := 12 } [.ref (ad 0), .int a1] G (shM, ad, IM, JM, PM ad) (fun r u1 => r = fr_count a1) 0 0 := by
  intro sz
  refine z_headQ (cc := cX12_count) (maxL := 5) (ret := (some .int)) (by decide) rfl (Nat.le_of_ble_eq_true rfl) ?_
  intro p e s m below meth c ls hIn hK hsz hW hl
  obtain ⟨hx, hb, hr, hml, hown, hts, hlocks, hname⟩ := hIn
  subst hsz
  have hown : s.vm.findClass RX12 = some m.cls := hown
  have hA : ∀ q : Nat, s.heap.size ≤ q → z_A (shM, ad, IM, JM, PM ad) s.heap.size q := fun q h => Or.inr h
  generalize hAe : z_A (shM, ad, IM, JM, PM ad) s.heap.size = A at *
  have hS : va_S A s.heap s.heap [] := va_S.rf
  have hl : lv_has ls 5 [(0, .ref (ad 0)), (1, .int a1)] := hl
  refine lv_iconst (v := 0) hx hb dX12_count_0 (by decide) ?_
  refine lv_istore_n (lv' := [(2, .int 0), (0, .ref (ad 0)), (1, .int a1)]) hx hb dX12_count_1 rfl hl (by decide) rfl (fun ls hl => ?_)
  refine lv_iconst (v := 0) hx hb dX12_count_2 (by decide) ?_
  refine lv_istore_n (lv' := [(3, .int 0), (2, .int 0), (0, .ref (ad 0)), (1, .int a1)]) hx hb dX12_count_3 rfl hl (by decide) rfl (fun ls hl => ?_)
  refine lv_iconst (v := 0) hx hb dX12_count_4 (by decide) ?_
  refine lv_istore (lv' := [(4, .int 0), (3, .int 0), (2, .int 0), (0, .ref (ad 0)), (1, .int a1)]) hx hb dX12_count_5 hl (by decide) rfl (fun ls hl => ?_)
  refine lv_iload hx hb dX12_count_7 (lv_at hl 0 rfl) ?_
  refine lv_aload_n hx hb dX12_count_9 rfl (lv_at hl 3 rfl) ?_
  refine z_get (T := TX12) (N := 96) (ci := 12) (i := 0) (v := .int 0) hx hb hts zi_X12_count_X12 hown hK hW rfl rfl 55 (by decide) (hts (.fieldLink RX12 468 "PetrolBoardModel" "pours" "I") (List.mem_of_getElem? (i := 1) rfl)) (fun _ h => h) rfl dX12_count_10 ?_
  refine lv_icmp_ge (tgt := 48) hx hb dX12_count_13 (by decide) (fun c1 => ?_) (fun c1 => absurd (by decide) c1)
  refine lv_iload_n hx hb dX12_count_48 rfl (lv_at hl 4 rfl) ?_
  by_cases q2 : a1 = 0
  · refine lv_tableIn (tgt := 116) hx hb dX12_count_49 (by rw [q2]; decide) (by rw [q2]; decide) (by rw [q2]; rfl) (by decide) ?_
    refine lv_aload_n hx hb dX12_count_116 rfl (lv_at hl 3 rfl) ?_
    refine z_get (T := TX12) (N := 96) (ci := 12) (i := 0) (v := .int 0) hx hb hts zi_X12_count_X12 hown hK hW rfl rfl 0 (by decide) (hts (.fieldLink RX12 232 "PetrolBoardModel" "today" "I") (List.mem_of_getElem? (i := 3) rfl)) (fun _ h => h) rfl dX12_count_117 ?_
    exact z_iret hx hb hr hK hS (Nat.le_of_ble_eq_true rfl) (Nat.le_of_ble_eq_true rfl) hlocks dX12_count_120 (shM, ad, IM, JM, PM ad) hW (by show _ = fr_count a1; unfold fr_count; split <;> first | rfl | (rename_i q; exfalso; simp only [Int32.lt_iff_toInt_lt, Int32.le_iff_toInt_le, ← Int32.toInt_inj, z_l0, z_l1, z_l2, z_l3, z_l4, z_l5, z_l6, z_l7, z_l8, z_l9, z_l10, z_l11, z_l12] at q q2; omega))
  by_cases q3 : a1 = 1
  · refine lv_tableIn (tgt := 121) hx hb dX12_count_49 (by rw [q3]; decide) (by rw [q3]; decide) (by rw [q3]; rfl) (by decide) ?_
    refine lv_aload_n hx hb dX12_count_121 rfl (lv_at hl 3 rfl) ?_
    refine z_get (T := TX12) (N := 96) (ci := 12) (i := 0) (v := .int 0) hx hb hts zi_X12_count_X12 hown hK hW rfl rfl 1 (by decide) (hts (.fieldLink RX12 229 "PetrolBoardModel" "holders" "I") (List.mem_of_getElem? (i := 4) rfl)) (fun _ h => h) rfl dX12_count_122 ?_
    exact z_iret hx hb hr hK hS (Nat.le_of_ble_eq_true rfl) (Nat.le_of_ble_eq_true rfl) hlocks dX12_count_125 (shM, ad, IM, JM, PM ad) hW (by show _ = fr_count a1; unfold fr_count; split <;> first | rfl | (rename_i q; exfalso; simp only [Int32.lt_iff_toInt_lt, Int32.le_iff_toInt_le, ← Int32.toInt_inj, z_l0, z_l1, z_l2, z_l3, z_l4, z_l5, z_l6, z_l7, z_l8, z_l9, z_l10, z_l11, z_l12] at q q2 q3; omega))
  by_cases q4 : a1 = 2
  · refine lv_tableIn (tgt := 126) hx hb dX12_count_49 (by rw [q4]; decide) (by rw [q4]; decide) (by rw [q4]; rfl) (by decide) ?_
    refine lv_aload_n hx hb dX12_count_126 rfl (lv_at hl 3 rfl) ?_
    refine z_get (T := TX12) (N := 96) (ci := 12) (i := 0) (v := .int 0) hx hb hts zi_X12_count_X12 hown hK hW rfl rfl 2 (by decide) (hts (.fieldLink RX12 246 "PetrolBoardModel" "notes" "I") (List.mem_of_getElem? (i := 5) rfl)) (fun _ h => h) rfl dX12_count_127 ?_
    exact z_iret hx hb hr hK hS (Nat.le_of_ble_eq_true rfl) (Nat.le_of_ble_eq_true rfl) hlocks dX12_count_130 (shM, ad, IM, JM, PM ad) hW (by show _ = fr_count a1; unfold fr_count; split <;> first | rfl | (rename_i q; exfalso; simp only [Int32.lt_iff_toInt_lt, Int32.le_iff_toInt_le, ← Int32.toInt_inj, z_l0, z_l1, z_l2, z_l3, z_l4, z_l5, z_l6, z_l7, z_l8, z_l9, z_l10, z_l11, z_l12] at q q2 q3 q4; omega))
  by_cases q5 : a1 = 3
  · refine lv_tableIn (tgt := 131) hx hb dX12_count_49 (by rw [q5]; decide) (by rw [q5]; decide) (by rw [q5]; rfl) (by decide) ?_
    refine lv_aload_n hx hb dX12_count_131 rfl (lv_at hl 3 rfl) ?_
    refine z_get (T := TX12) (N := 96) (ci := 12) (i := 0) (v := .int 0) hx hb hts zi_X12_count_X12 hown hK hW rfl rfl 13 (by decide) (hts (.fieldLink RX12 408 "PetrolBoardModel" "texts" "I") (List.mem_of_getElem? (i := 6) rfl)) (fun _ h => h) rfl dX12_count_132 ?_
    exact z_iret hx hb hr hK hS (Nat.le_of_ble_eq_true rfl) (Nat.le_of_ble_eq_true rfl) hlocks dX12_count_135 (shM, ad, IM, JM, PM ad) hW (by show _ = fr_count a1; unfold fr_count; split <;> first | rfl | (rename_i q; exfalso; simp only [Int32.lt_iff_toInt_lt, Int32.le_iff_toInt_le, ← Int32.toInt_inj, z_l0, z_l1, z_l2, z_l3, z_l4, z_l5, z_l6, z_l7, z_l8, z_l9, z_l10, z_l11, z_l12] at q q2 q3 q4 q5; omega))
  by_cases q6 : a1 = 4
  · refine lv_tableIn (tgt := 136) hx hb dX12_count_49 (by rw [q6]; decide) (by rw [q6]; decide) (by rw [q6]; rfl) (by decide) ?_
    refine lv_aload_n hx hb dX12_count_136 rfl (lv_at hl 3 rfl) ?_
    refine z_get (T := TX12) (N := 96) (ci := 12) (i := 0) (v := .int 0) hx hb hts zi_X12_count_X12 hown hK hW rfl rfl 50 (by decide) (hts (.fieldLink RX12 449 "PetrolBoardModel" "books" "I") (List.mem_of_getElem? (i := 7) rfl)) (fun _ h => h) rfl dX12_count_137 ?_
    exact z_iret hx hb hr hK hS (Nat.le_of_ble_eq_true rfl) (Nat.le_of_ble_eq_true rfl) hlocks dX12_count_140 (shM, ad, IM, JM, PM ad) hW (by show _ = fr_count a1; unfold fr_count; split <;> first | rfl | (rename_i q; exfalso; simp only [Int32.lt_iff_toInt_lt, Int32.le_iff_toInt_le, ← Int32.toInt_inj, z_l0, z_l1, z_l2, z_l3, z_l4, z_l5, z_l6, z_l7, z_l8, z_l9, z_l10, z_l11, z_l12] at q q2 q3 q4 q5 q6; omega))
  by_cases q7 : a1 = 5
  · refine lv_tableIn (tgt := 141) hx hb dX12_count_49 (by rw [q7]; decide) (by rw [q7]; decide) (by rw [q7]; rfl) (by decide) ?_
    refine lv_aload_n hx hb dX12_count_141 rfl (lv_at hl 3 rfl) ?_
    refine z_get (T := TX12) (N := 96) (ci := 12) (i := 0) (v := .int 0) hx hb hts zi_X12_count_X12 hown hK hW rfl rfl 54 (by decide) (hts (.fieldLink RX12 461 "PetrolBoardModel" "stations" "I") (List.mem_of_getElem? (i := 8) rfl)) (fun _ h => h) rfl dX12_count_142 ?_
    exact z_iret hx hb hr hK hS (Nat.le_of_ble_eq_true rfl) (Nat.le_of_ble_eq_true rfl) hlocks dX12_count_145 (shM, ad, IM, JM, PM ad) hW (by show _ = fr_count a1; unfold fr_count; split <;> first | rfl | (rename_i q; exfalso; simp only [Int32.lt_iff_toInt_lt, Int32.le_iff_toInt_le, ← Int32.toInt_inj, z_l0, z_l1, z_l2, z_l3, z_l4, z_l5, z_l6, z_l7, z_l8, z_l9, z_l10, z_l11, z_l12] at q q2 q3 q4 q5 q6 q7; omega))
  by_cases q8 : a1 = 6
  · refine lv_tableIn (tgt := 146) hx hb dX12_count_49 (by rw [q8]; decide) (by rw [q8]; decide) (by rw [q8]; rfl) (by decide) ?_
    refine lv_aload_n hx hb dX12_count_146 rfl (lv_at hl 3 rfl) ?_
    refine z_get (T := TX12) (N := 96) (ci := 12) (i := 0) (v := .int 0) hx hb hts zi_X12_count_X12 hown hK hW rfl rfl 55 (by decide) (hts (.fieldLink RX12 468 "PetrolBoardModel" "pours" "I") (List.mem_of_getElem? (i := 1) rfl)) (fun _ h => h) rfl dX12_count_147 ?_
    exact z_iret hx hb hr hK hS (Nat.le_of_ble_eq_true rfl) (Nat.le_of_ble_eq_true rfl) hlocks dX12_count_150 (shM, ad, IM, JM, PM ad) hW (by show _ = fr_count a1; unfold fr_count; split <;> first | rfl | (rename_i q; exfalso; simp only [Int32.lt_iff_toInt_lt, Int32.le_iff_toInt_le, ← Int32.toInt_inj, z_l0, z_l1, z_l2, z_l3, z_l4, z_l5, z_l6, z_l7, z_l8, z_l9, z_l10, z_l11, z_l12] at q q2 q3 q4 q5 q6 q7 q8; omega))
  by_cases q9 : a1 = 7
  · refine lv_tableIn (tgt := 151) hx hb dX12_count_49 (by rw [q9]; decide) (by rw [q9]; decide) (by rw [q9]; rfl) (by decide) ?_
    refine lv_iload_n hx hb dX12_count_151 rfl (lv_at hl 2 rfl) ?_
    exact z_iret hx hb hr hK hS (Nat.le_of_ble_eq_true rfl) (Nat.le_of_ble_eq_true rfl) hlocks dX12_count_152 (shM, ad, IM, JM, PM ad) hW (by show _ = fr_count a1; unfold fr_count; split <;> first | rfl | (rename_i q; exfalso; simp only [Int32.lt_iff_toInt_lt, Int32.le_iff_toInt_le, ← Int32.toInt_inj, z_l0, z_l1, z_l2, z_l3, z_l4, z_l5, z_l6, z_l7, z_l8, z_l9, z_l10, z_l11, z_l12] at q q2 q3 q4 q5 q6 q7 q8 q9; omega))
  by_cases q10 : a1 = 8
  · refine lv_tableIn (tgt := 153) hx hb dX12_count_49 (by rw [q10]; decide) (by rw [q10]; decide) (by rw [q10]; rfl) (by decide) ?_
    refine lv_iload_n hx hb dX12_count_153 rfl (lv_at hl 1 rfl) ?_
    exact z_iret hx hb hr hK hS (Nat.le_of_ble_eq_true rfl) (Nat.le_of_ble_eq_true rfl) hlocks dX12_count_154 (shM, ad, IM, JM, PM ad) hW (by show _ = fr_count a1; unfold fr_count; split <;> first | rfl | (rename_i q; exfalso; simp only [Int32.lt_iff_toInt_lt, Int32.le_iff_toInt_le, ← Int32.toInt_inj, z_l0, z_l1, z_l2, z_l3, z_l4, z_l5, z_l6, z_l7, z_l8, z_l9, z_l10, z_l11, z_l12] at q q2 q3 q4 q5 q6 q7 q8 q9 q10; omega))
  by_cases q11 : a1 = 9
  · refine lv_tableIn (tgt := 155) hx hb dX12_count_49 (by rw [q11]; decide) (by rw [q11]; decide) (by rw [q11]; rfl) (by decide) ?_
    refine lv_aload_n hx hb dX12_count_155 rfl (lv_at hl 3 rfl) ?_
    refine z_get (T := TX12) (N := 96) (ci := 12) (i := 0) (v := .int 0) hx hb hts zi_X12_count_X12 hown hK hW rfl rfl 51 (by decide) (hts (.fieldLink RX12 455 "PetrolBoardModel" "lentAll" "I") (List.mem_of_getElem? (i := 9) rfl)) (fun _ h => h) rfl dX12_count_156 ?_
    exact z_iret hx hb hr hK hS (Nat.le_of_ble_eq_true rfl) (Nat.le_of_ble_eq_true rfl) hlocks dX12_count_159 (shM, ad, IM, JM, PM ad) hW (by show _ = fr_count a1; unfold fr_count; split <;> first | rfl | (rename_i q; exfalso; simp only [Int32.lt_iff_toInt_lt, Int32.le_iff_toInt_le, ← Int32.toInt_inj, z_l0, z_l1, z_l2, z_l3, z_l4, z_l5, z_l6, z_l7, z_l8, z_l9, z_l10, z_l11, z_l12] at q q2 q3 q4 q5 q6 q7 q8 q9 q10 q11; omega))
  by_cases q12 : a1 = 10
  · refine lv_tableIn (tgt := 160) hx hb dX12_count_49 (by rw [q12]; decide) (by rw [q12]; decide) (by rw [q12]; rfl) (by decide) ?_
    refine lv_aload_n hx hb dX12_count_160 rfl (lv_at hl 3 rfl) ?_
    refine z_get (T := TX12) (N := 96) (ci := 12) (i := 0) (v := .int 0) hx hb hts zi_X12_count_X12 hown hK hW rfl rfl 75 (by decide) (hts (.fieldLink RX12 493 "PetrolBoardModel" "ports" "I") (List.mem_of_getElem? (i := 10) rfl)) (fun _ h => h) rfl dX12_count_161 ?_
    exact z_iret hx hb hr hK hS (Nat.le_of_ble_eq_true rfl) (Nat.le_of_ble_eq_true rfl) hlocks dX12_count_164 (shM, ad, IM, JM, PM ad) hW (by show _ = fr_count a1; unfold fr_count; split <;> first | rfl | (rename_i q; exfalso; simp only [Int32.lt_iff_toInt_lt, Int32.le_iff_toInt_le, ← Int32.toInt_inj, z_l0, z_l1, z_l2, z_l3, z_l4, z_l5, z_l6, z_l7, z_l8, z_l9, z_l10, z_l11, z_l12] at q q2 q3 q4 q5 q6 q7 q8 q9 q10 q11 q12; omega))
  by_cases q13 : a1 = 11
  · refine lv_tableIn (tgt := 165) hx hb dX12_count_49 (by rw [q13]; decide) (by rw [q13]; decide) (by rw [q13]; rfl) (by decide) ?_
    refine lv_aload_n hx hb dX12_count_165 rfl (lv_at hl 3 rfl) ?_
    refine z_get (T := TX12) (N := 96) (ci := 12) (i := 0) (v := .int 0) hx hb hts zi_X12_count_X12 hown hK hW rfl rfl 83 (by decide) (hts (.fieldLink RX12 505 "PetrolBoardModel" "journeys" "I") (List.mem_of_getElem? (i := 11) rfl)) (fun _ h => h) rfl dX12_count_166 ?_
    exact z_iret hx hb hr hK hS (Nat.le_of_ble_eq_true rfl) (Nat.le_of_ble_eq_true rfl) hlocks dX12_count_169 (shM, ad, IM, JM, PM ad) hW (by show _ = fr_count a1; unfold fr_count; split <;> first | rfl | (rename_i q; exfalso; simp only [Int32.lt_iff_toInt_lt, Int32.le_iff_toInt_le, ← Int32.toInt_inj, z_l0, z_l1, z_l2, z_l3, z_l4, z_l5, z_l6, z_l7, z_l8, z_l9, z_l10, z_l11, z_l12] at q q2 q3 q4 q5 q6 q7 q8 q9 q10 q11 q12 q13; omega))
  by_cases q14 : a1 = 12
  · refine lv_tableIn (tgt := 170) hx hb dX12_count_49 (by rw [q14]; decide) (by rw [q14]; decide) (by rw [q14]; rfl) (by decide) ?_
    refine lv_aload_n hx hb dX12_count_170 rfl (lv_at hl 3 rfl) ?_
    refine z_get (T := TX12) (N := 96) (ci := 12) (i := 0) (v := .int 0) hx hb hts zi_X12_count_X12 hown hK hW rfl rfl 31 (by decide) (hts (.fieldLink RX12 253 "PetrolBoardModel" "taped" "I") (List.mem_of_getElem? (i := 12) rfl)) (fun _ h => h) rfl dX12_count_171 ?_
    exact z_iret hx hb hr hK hS (Nat.le_of_ble_eq_true rfl) (Nat.le_of_ble_eq_true rfl) hlocks dX12_count_174 (shM, ad, IM, JM, PM ad) hW (by show _ = fr_count a1; unfold fr_count; split <;> first | rfl | (rename_i q; exfalso; simp only [Int32.lt_iff_toInt_lt, Int32.le_iff_toInt_le, ← Int32.toInt_inj, z_l0, z_l1, z_l2, z_l3, z_l4, z_l5, z_l6, z_l7, z_l8, z_l9, z_l10, z_l11, z_l12] at q q2 q3 q4 q5 q6 q7 q8 q9 q10 q11 q12 q13 q14; omega))
  refine lv_tableOut (tgt := 175) hx hb dX12_count_49 (by simp only [← Int32.toInt_inj, z_l0, z_l1, z_l2, z_l3, z_l4, z_l5, z_l6, z_l7, z_l8, z_l9, z_l10, z_l11, z_l12] at q2 q3 q4 q5 q6 q7 q8 q9 q10 q11 q12 q13 q14; omega) (by decide) ?_
  refine lv_iconst (v := (-1)) hx hb dX12_count_175 (by decide) ?_
  exact z_iret hx hb hr hK hS (Nat.le_of_ble_eq_true rfl) (Nat.le_of_ble_eq_true rfl) hlocks dX12_count_176 (shM, ad, IM, JM, PM ad) hW (by show _ = fr_count a1; unfold fr_count; split <;> first | rfl | (rename_i q; exfalso; simp only [Int32.lt_iff_toInt_lt, Int32.le_iff_toInt_le, ← Int32.toInt_inj, z_l0, z_l1, z_l2, z_l3, z_l4, z_l5, z_l6, z_l7, z_l8, z_l9, z_l10, z_l11, z_l12] at q q2 q3 q4 q5 q6 q7 q8 q9 q10 q11 q12 q13 q14; omega))
set_option maxHeartbeats 4000000 in
set_option maxRecDepth 100000 in
theorem ct_X12_other (l : Launch) (G : z_G) (ad : Nat → Nat) (a1 : Int32) (a2 : Int32) (a3 : Int32) (a4 : Int32) : z_M l yX12_other wsX12_other { frames := 2, cells := 0, slots := 0, locals := 34 } [.ref (ad 0), .int a1, .int a2, .int a3, .int a4] G (shM, ad, IM, JM, PM ad) (fun r u1 => r = (-1)) 0 0 := by
  intro sz
  refine z_headQ (cc := cX12_other) (maxL := 5) (ret := (some .int)) (by decide) rfl (Nat.le_of_ble_eq_true rfl) ?_
  intro p e s m below meth c ls hIn hK hsz hW hl
  obtain ⟨hx, hb, hr, hml, hown, hts, hlocks, hname⟩ := hIn
  subst hsz
  have hown : s.vm.findClass RX12 = some m.cls := hown
  have hA : ∀ q : Nat, s.heap.size ≤ q → z_A (shM, ad, IM, JM, PM ad) s.heap.size q := fun q h => Or.inr h
  generalize hAe : z_A (shM, ad, IM, JM, PM ad) s.heap.size = A at *
  have hS : va_S A s.heap s.heap [] := va_S.rf
  have hl : lv_has ls 5 [(0, .ref (ad 0)), (1, .int a1), (2, .int a2), (3, .int a3), (4, .int a4)] := hl
  refine lv_iload_n hx hb dX12_other_0 rfl (lv_at hl 1 rfl) ?_
  refine lv_iconst (v := 0) hx hb dX12_other_1 (by decide) ?_
  refine lv_iconst (v := 2) hx hb dX12_other_2 (by decide) ?_
  refine z_ci hW hS hA (va_runS (As := [.int a1, .int 0, .int 2]) (rest := []) ⟨hx, hb, hml, hown, hts⟩ (ct_X12_within l G (shM, ad, IM, JM, PM ad) a1 0 2 _) (va_cwS 3 hts gX12_other_X12_within rfl rfl rfl (by decide +kernel) ⟨Nat.le_of_ble_eq_true rfl, Nat.le_of_ble_eq_true rfl⟩) (z_preS hK hW) rfl rfl hl.1 rfl (lv_room (Nat.le_of_ble_eq_true rfl)) dX12_other_3 ⟨Nat.le_of_ble_eq_true rfl, Nat.le_of_ble_eq_true rfl⟩) (fun r u1 H locs hp hW hS => ?_)
  obtain ⟨e9, hp⟩ := hp
  rw [e9] at hW
  rcases hp with ⟨rfl, h1, h2⟩ | ⟨rfl, h3⟩
  · refine lv_if_eq (tgt := 34) hx hb dX12_other_6 (by decide) (fun c4 => absurd c4 (by decide)) (fun c4 => ?_)
    refine lv_iload_n hx hb dX12_other_9 rfl (lv_at hl 2 rfl) ?_
    refine z_ci hW hS hA (va_runS (As := [.int a2]) (rest := []) ⟨hx, hb, hml, hown, hts⟩ (ct_X12_isMonth l G (shM, ad, IM, JM, PM ad) a2 _) (va_cwS 1 hts gX12_other_X12_isMonth rfl rfl rfl (by decide +kernel) ⟨Nat.le_of_ble_eq_true rfl, Nat.le_of_ble_eq_true rfl⟩) (z_preS hK hW) rfl rfl hl.1 rfl (lv_room (Nat.le_of_ble_eq_true rfl)) dX12_other_10 ⟨Nat.le_of_ble_eq_true rfl, Nat.le_of_ble_eq_true rfl⟩) (fun r u1 H locs hp hW hS => ?_)
    obtain ⟨e9, hp⟩ := hp
    rw [e9] at hW
    rcases hp with ⟨rfl, h5, h6⟩ | ⟨rfl, h7⟩
    · refine lv_if_eq (tgt := 34) hx hb dX12_other_13 (by decide) (fun c8 => absurd c8 (by decide)) (fun c8 => ?_)
      refine lv_aload_n hx hb dX12_other_16 rfl (lv_at hl 0 rfl) ?_
      refine lv_iload_n hx hb dX12_other_17 rfl (lv_at hl 3 rfl) ?_
      refine z_ci hW hS hA (va_runV (As := [.int a3]) (rest := []) ⟨hx, hb, hml, hown, hts⟩ (ct_X12_isHolder l G ad a3 _) (cwV 1 hts gX12_other_X12_isHolder rfl rfl rfl (by decide +kernel) ⟨Nat.le_of_ble_eq_true rfl, Nat.le_of_ble_eq_true rfl⟩) (z_preV hK hW rfl rfl) rfl rfl hl.1 rfl (lv_room (Nat.le_of_ble_eq_true rfl)) dX12_other_18 ⟨Nat.le_of_ble_eq_true rfl, Nat.le_of_ble_eq_true rfl⟩) (fun r u1 H locs hp hW hS => ?_)
      obtain ⟨e9, rfl⟩ := hp
      rw [e9] at hW
      refine lv_if_eq (tgt := 34) hx hb dX12_other_21 (by decide) (fun c9 => ?_) (fun c9 => absurd (by decide) c9)
      refine lv_iconst (v := (-1)) hx hb dX12_other_34 (by decide) ?_
      exact z_iret hx hb hr hK hS (Nat.le_of_ble_eq_true rfl) (Nat.le_of_ble_eq_true rfl) hlocks dX12_other_35 (shM, ad, IM, JM, PM ad) hW rfl
    · refine lv_if_eq (tgt := 34) hx hb dX12_other_13 (by decide) (fun c10 => ?_) (fun c10 => absurd (by decide) c10)
      refine lv_iconst (v := (-1)) hx hb dX12_other_34 (by decide) ?_
      exact z_iret hx hb hr hK hS (Nat.le_of_ble_eq_true rfl) (Nat.le_of_ble_eq_true rfl) hlocks dX12_other_35 (shM, ad, IM, JM, PM ad) hW rfl
  · refine lv_if_eq (tgt := 34) hx hb dX12_other_6 (by decide) (fun c11 => ?_) (fun c11 => absurd (by decide) c11)
    refine lv_iconst (v := (-1)) hx hb dX12_other_34 (by decide) ?_
    exact z_iret hx hb hr hK hS (Nat.le_of_ble_eq_true rfl) (Nat.le_of_ble_eq_true rfl) hlocks dX12_other_35 (shM, ad, IM, JM, PM ad) hW rfl
theorem zi_X12_poured_X12 : ∀ w ∈ wsX120, w ∈ wsX12_poured := fun w h => (List.mem_cons_of_mem _ (List.mem_append_right _ h))
set_option maxHeartbeats 4000000 in
set_option maxRecDepth 100000 in
theorem ct_X12_poured (l : Launch) (G : z_G) (ad : Nat → Nat) (a1 : Int32) (a2 : Int32) : z_M l yX12_poured wsX12_poured { frames := 1, cells := 0, slots := 0, locals := 12 } [.ref (ad 0), .int a1, .int a2] G (shM, ad, IM, JM, PM ad) (fun r u1 => r = (-1)) 0 0 := by
  intro sz
  refine z_headQ (cc := cX12_poured) (maxL := 3) (ret := (some .int)) (by decide) rfl (Nat.le_of_ble_eq_true rfl) ?_
  intro p e s m below meth c ls hIn hK hsz hW hl
  obtain ⟨hx, hb, hr, hml, hown, hts, hlocks, hname⟩ := hIn
  subst hsz
  have hown : s.vm.findClass RX12 = some m.cls := hown
  have hA : ∀ q : Nat, s.heap.size ≤ q → z_A (shM, ad, IM, JM, PM ad) s.heap.size q := fun q h => Or.inr h
  generalize hAe : z_A (shM, ad, IM, JM, PM ad) s.heap.size = A at *
  have hS : va_S A s.heap s.heap [] := va_S.rf
  have hl : lv_has ls 3 [(0, .ref (ad 0)), (1, .int a1), (2, .int a2)] := hl
  refine lv_iload_n hx hb dX12_poured_0 rfl (lv_at hl 1 rfl) ?_
  refine lv_if_lt (tgt := 12) hx hb dX12_poured_1 (by decide) (fun c1 => ?_) (fun c1 => ?_)
  · refine lv_iconst (v := (-1)) hx hb dX12_poured_12 (by decide) ?_
    exact z_iret hx hb hr hK hS (Nat.le_of_ble_eq_true rfl) (Nat.le_of_ble_eq_true rfl) hlocks dX12_poured_13 (shM, ad, IM, JM, PM ad) hW rfl
  · refine lv_iload_n hx hb dX12_poured_4 rfl (lv_at hl 1 rfl) ?_
    refine lv_aload_n hx hb dX12_poured_5 rfl (lv_at hl 0 rfl) ?_
    refine z_get (T := TX12) (N := 96) (ci := 12) (i := 0) (v := .int 0) hx hb hts zi_X12_poured_X12 hown hK hW rfl rfl 55 (by decide) (hts (.fieldLink RX12 468 "PetrolBoardModel" "pours" "I") (List.mem_of_getElem? (i := 1) rfl)) (fun _ h => h) rfl dX12_poured_6 ?_
    refine lv_icmp_lt (tgt := 14) hx hb dX12_poured_9 (by decide) (fun c2 => False.elim (by simp only [Int32.lt_iff_toInt_lt, Int32.le_iff_toInt_le, ← Int32.toInt_inj, z_l0] at c1 c2; omega)) (fun c2 => ?_)
    refine lv_iconst (v := (-1)) hx hb dX12_poured_12 (by decide) ?_
    exact z_iret hx hb hr hK hS (Nat.le_of_ble_eq_true rfl) (Nat.le_of_ble_eq_true rfl) hlocks dX12_poured_13 (shM, ad, IM, JM, PM ad) hW rfl
set_option maxHeartbeats 4000000 in
set_option maxRecDepth 100000 in
theorem ct_X12_deliver (l : Launch) (G : z_G) (ad : Nat → Nat) (a1 : Int32) (a2 : Int32) : z_M l yX12_deliver wsX12_deliver { frames := 2, cells := 0, slots := 0, locals := 34 } [.ref (ad 0), .int a1, .int a2] G (shM, ad, IM, JM, PM ad) (fun r u1 => r = (-1)) 0 0 := by
  intro sz
  refine z_headQ (cc := cX12_deliver) (maxL := 3) (ret := (some .int)) (by decide) rfl (Nat.le_of_ble_eq_true rfl) ?_
  intro p e s m below meth c ls hIn hK hsz hW hl
  obtain ⟨hx, hb, hr, hml, hown, hts, hlocks, hname⟩ := hIn
  subst hsz
  have hown : s.vm.findClass RX12 = some m.cls := hown
  have hA : ∀ q : Nat, s.heap.size ≤ q → z_A (shM, ad, IM, JM, PM ad) s.heap.size q := fun q h => Or.inr h
  generalize hAe : z_A (shM, ad, IM, JM, PM ad) s.heap.size = A at *
  have hS : va_S A s.heap s.heap [] := va_S.rf
  have hl : lv_has ls 3 [(0, .ref (ad 0)), (1, .int a1), (2, .int a2)] := hl
  refine lv_aload_n hx hb dX12_deliver_0 rfl (lv_at hl 0 rfl) ?_
  refine lv_iload_n hx hb dX12_deliver_1 rfl (lv_at hl 1 rfl) ?_
  refine z_ci hW hS hA (va_runV (As := [.int a1]) (rest := []) ⟨hx, hb, hml, hown, hts⟩ (ct_X12_isStation l G ad a1 _) (cwV 1 hts gX12_deliver_X12_isStation rfl rfl rfl (by decide +kernel) ⟨Nat.le_of_ble_eq_true rfl, Nat.le_of_ble_eq_true rfl⟩) (z_preV hK hW rfl rfl) rfl rfl hl.1 rfl (lv_room (Nat.le_of_ble_eq_true rfl)) dX12_deliver_2 ⟨Nat.le_of_ble_eq_true rfl, Nat.le_of_ble_eq_true rfl⟩) (fun r u1 H locs hp hW hS => ?_)
  obtain ⟨e9, rfl⟩ := hp
  rw [e9] at hW
  refine lv_if_eq (tgt := 29) hx hb dX12_deliver_5 (by decide) (fun c1 => ?_) (fun c1 => absurd (by decide) c1)
  refine lv_iconst (v := (-1)) hx hb dX12_deliver_29 (by decide) ?_
  exact z_iret hx hb hr hK hS (Nat.le_of_ble_eq_true rfl) (Nat.le_of_ble_eq_true rfl) hlocks dX12_deliver_30 (shM, ad, IM, JM, PM ad) hW rfl
set_option maxHeartbeats 4000000 in
set_option maxRecDepth 100000 in
theorem ct_X12_dip (l : Launch) (G : z_G) (ad : Nat → Nat) (a1 : Int32) (a2 : Int32) : z_M l yX12_dip wsX12_dip { frames := 2, cells := 0, slots := 0, locals := 34 } [.ref (ad 0), .int a1, .int a2] G (shM, ad, IM, JM, PM ad) (fun r u1 => r = (-1)) 0 0 := by
  intro sz
  refine z_headQ (cc := cX12_dip) (maxL := 4) (ret := (some .int)) (by decide) rfl (Nat.le_of_ble_eq_true rfl) ?_
  intro p e s m below meth c ls hIn hK hsz hW hl
  obtain ⟨hx, hb, hr, hml, hown, hts, hlocks, hname⟩ := hIn
  subst hsz
  have hown : s.vm.findClass RX12 = some m.cls := hown
  have hA : ∀ q : Nat, s.heap.size ≤ q → z_A (shM, ad, IM, JM, PM ad) s.heap.size q := fun q h => Or.inr h
  generalize hAe : z_A (shM, ad, IM, JM, PM ad) s.heap.size = A at *
  have hS : va_S A s.heap s.heap [] := va_S.rf
  have hl : lv_has ls 4 [(0, .ref (ad 0)), (1, .int a1), (2, .int a2)] := hl
  refine lv_aload_n hx hb dX12_dip_0 rfl (lv_at hl 0 rfl) ?_
  refine lv_iload_n hx hb dX12_dip_1 rfl (lv_at hl 1 rfl) ?_
  refine z_ci hW hS hA (va_runV (As := [.int a1]) (rest := []) ⟨hx, hb, hml, hown, hts⟩ (ct_X12_isStation l G ad a1 _) (cwV 1 hts gX12_dip_X12_isStation rfl rfl rfl (by decide +kernel) ⟨Nat.le_of_ble_eq_true rfl, Nat.le_of_ble_eq_true rfl⟩) (z_preV hK hW rfl rfl) rfl rfl hl.1 rfl (lv_room (Nat.le_of_ble_eq_true rfl)) dX12_dip_2 ⟨Nat.le_of_ble_eq_true rfl, Nat.le_of_ble_eq_true rfl⟩) (fun r u1 H locs hp hW hS => ?_)
  obtain ⟨e9, rfl⟩ := hp
  rw [e9] at hW
  refine lv_if_eq (tgt := 30) hx hb dX12_dip_5 (by decide) (fun c1 => ?_) (fun c1 => absurd (by decide) c1)
  refine lv_iconst (v := (-1)) hx hb dX12_dip_30 (by decide) ?_
  exact z_iret hx hb hr hK hS (Nat.le_of_ble_eq_true rfl) (Nat.le_of_ble_eq_true rfl) hlocks dX12_dip_31 (shM, ad, IM, JM, PM ad) hW rfl
set_option maxHeartbeats 4000000 in
set_option maxRecDepth 100000 in
theorem ct_X12_in (l : Launch) (G : z_G) (ad : Nat → Nat) (a1 : Int32) (a2 : Int32) : z_M l yX12_in wsX12_in { frames := 2, cells := 0, slots := 0, locals := 33 } [.ref (ad 0), .int a1, .int a2] G (shM, ad, IM, JM, PM ad) (fun r u1 => r = (-2000000000)) 0 0 := by
  intro sz
  refine z_headQ (cc := cX12_in) (maxL := 3) (ret := (some .int)) (by decide) rfl (Nat.le_of_ble_eq_true rfl) ?_
  intro p e s m below meth c ls hIn hK hsz hW hl
  obtain ⟨hx, hb, hr, hml, hown, hts, hlocks, hname⟩ := hIn
  subst hsz
  have hown : s.vm.findClass RX12 = some m.cls := hown
  have hA : ∀ q : Nat, s.heap.size ≤ q → z_A (shM, ad, IM, JM, PM ad) s.heap.size q := fun q h => Or.inr h
  generalize hAe : z_A (shM, ad, IM, JM, PM ad) s.heap.size = A at *
  have hS : va_S A s.heap s.heap [] := va_S.rf
  have hl : lv_has ls 3 [(0, .ref (ad 0)), (1, .int a1), (2, .int a2)] := hl
  refine lv_aload_n hx hb dX12_in_0 rfl (lv_at hl 0 rfl) ?_
  refine lv_iload_n hx hb dX12_in_1 rfl (lv_at hl 1 rfl) ?_
  refine z_ci hW hS hA (va_runV (As := [.int a1]) (rest := []) ⟨hx, hb, hml, hown, hts⟩ (ct_X12_isStation l G ad a1 _) (cwV 1 hts gX12_in_X12_isStation rfl rfl rfl (by decide +kernel) ⟨Nat.le_of_ble_eq_true rfl, Nat.le_of_ble_eq_true rfl⟩) (z_preV hK hW rfl rfl) rfl rfl hl.1 rfl (lv_room (Nat.le_of_ble_eq_true rfl)) dX12_in_2 ⟨Nat.le_of_ble_eq_true rfl, Nat.le_of_ble_eq_true rfl⟩) (fun r u1 H locs hp hW hS => ?_)
  obtain ⟨e9, rfl⟩ := hp
  rw [e9] at hW
  refine lv_if_eq (tgt := 34) hx hb dX12_in_5 (by decide) (fun c1 => ?_) (fun c1 => absurd (by decide) c1)
  refine lv_ldcw (v := (-2000000000)) hx hb hown (hts (.constant RX12 482 (-2000000000)) (List.mem_of_getElem? (i := 2) rfl)) dX12_in_34 ?_
  exact z_iret hx hb hr hK hS (Nat.le_of_ble_eq_true rfl) (Nat.le_of_ble_eq_true rfl) hlocks dX12_in_37 (shM, ad, IM, JM, PM ad) hW rfl
set_option maxHeartbeats 4000000 in
set_option maxRecDepth 100000 in
theorem ct_X12_sums_ (l : Launch) (G : z_G) (ad : Nat → Nat) (a1 : Int32) (a2 : Int32) (a3 : Int32) (a4 : Int32) : z_Ml l yX12_sums_ wsX12_sums_ { frames := 2, cells := 0, slots := 0, locals := 34 } [.ref (ad 0), .int a1, .int a2, .int a3, .int a4] G (shM, ad, IM, JM, PM ad) (fun r u1 => r = (-1)) 0 0 := by
  intro sz
  refine z_headQ (cc := cX12_sums_) (maxL := 18) (ret := (some .long)) (by decide) rfl (Nat.le_of_ble_eq_true rfl) ?_
  intro p e s m below meth c ls hIn hK hsz hW hl
  obtain ⟨hx, hb, hr, hml, hown, hts, hlocks, hname⟩ := hIn
  subst hsz
  have hown : s.vm.findClass RX12 = some m.cls := hown
  have hA : ∀ q : Nat, s.heap.size ≤ q → z_A (shM, ad, IM, JM, PM ad) s.heap.size q := fun q h => Or.inr h
  generalize hAe : z_A (shM, ad, IM, JM, PM ad) s.heap.size = A at *
  have hS : va_S A s.heap s.heap [] := va_S.rf
  have hl : lv_has ls 18 [(0, .ref (ad 0)), (1, .int a1), (2, .int a2), (3, .int a3), (4, .int a4)] := hl
  refine lv_aload_n hx hb dX12_sums__0 rfl (lv_at hl 0 rfl) ?_
  refine lv_iload_n hx hb dX12_sums__1 rfl (lv_at hl 1 rfl) ?_
  refine z_ci hW hS hA (va_runV (As := [.int a1]) (rest := []) ⟨hx, hb, hml, hown, hts⟩ (ct_X12_isStation l G ad a1 _) (cwV 1 hts gX12_sums__X12_isStation rfl rfl rfl (by decide +kernel) ⟨Nat.le_of_ble_eq_true rfl, Nat.le_of_ble_eq_true rfl⟩) (z_preV hK hW rfl rfl) rfl rfl hl.1 rfl (lv_room (Nat.le_of_ble_eq_true rfl)) dX12_sums__2 ⟨Nat.le_of_ble_eq_true rfl, Nat.le_of_ble_eq_true rfl⟩) (fun r u1 H locs hp hW hS => ?_)
  obtain ⟨e9, rfl⟩ := hp
  rw [e9] at hW
  refine lv_if_eq (tgt := 37) hx hb dX12_sums__5 (by decide) (fun c1 => ?_) (fun c1 => absurd (by decide) c1)
  refine lv_ldc2 (v := (-1)) hx hb hown (hts (.constantLong RX12 269 (-1)) (List.mem_of_getElem? (i := 2) rfl)) dX12_sums__37 ?_
  exact z_lret hx hb hr hK hS (Nat.le_of_ble_eq_true rfl) (Nat.le_of_ble_eq_true rfl) hlocks dX12_sums__40 (shM, ad, IM, JM, PM ad) hW rfl
set_option maxHeartbeats 4000000 in
set_option maxRecDepth 100000 in
theorem ct_X12_judged (l : Launch) (G : z_G) (ad : Nat → Nat) (a1 : Int32) (a2 : Int32) (a3 : Int32) : z_Ml l yX12_judged wsX12_judged { frames := 2, cells := 0, slots := 0, locals := 33 } [.ref (ad 0), .int a1, .int a2, .int a3] G (shM, ad, IM, JM, PM ad) (fun r u1 => r = (-1)) 0 0 := by
  intro sz
  refine z_headQ (cc := cX12_judged) (maxL := 10) (ret := (some .long)) (by decide) rfl (Nat.le_of_ble_eq_true rfl) ?_
  intro p e s m below meth c ls hIn hK hsz hW hl
  obtain ⟨hx, hb, hr, hml, hown, hts, hlocks, hname⟩ := hIn
  subst hsz
  have hown : s.vm.findClass RX12 = some m.cls := hown
  have hA : ∀ q : Nat, s.heap.size ≤ q → z_A (shM, ad, IM, JM, PM ad) s.heap.size q := fun q h => Or.inr h
  generalize hAe : z_A (shM, ad, IM, JM, PM ad) s.heap.size = A at *
  have hS : va_S A s.heap s.heap [] := va_S.rf
  have hl : lv_has ls 10 [(0, .ref (ad 0)), (1, .int a1), (2, .int a2), (3, .int a3)] := hl
  refine lv_aload_n hx hb dX12_judged_0 rfl (lv_at hl 0 rfl) ?_
  refine lv_iload_n hx hb dX12_judged_1 rfl (lv_at hl 1 rfl) ?_
  refine z_ci hW hS hA (va_runV (As := [.int a1]) (rest := []) ⟨hx, hb, hml, hown, hts⟩ (ct_X12_isStation l G ad a1 _) (cwV 1 hts gX12_judged_X12_isStation rfl rfl rfl (by decide +kernel) ⟨Nat.le_of_ble_eq_true rfl, Nat.le_of_ble_eq_true rfl⟩) (z_preV hK hW rfl rfl) rfl rfl hl.1 rfl (lv_room (Nat.le_of_ble_eq_true rfl)) dX12_judged_2 ⟨Nat.le_of_ble_eq_true rfl, Nat.le_of_ble_eq_true rfl⟩) (fun r u1 H locs hp hW hS => ?_)
  obtain ⟨e9, rfl⟩ := hp
  rw [e9] at hW
  refine lv_if_eq (tgt := 27) hx hb dX12_judged_5 (by decide) (fun c1 => ?_) (fun c1 => absurd (by decide) c1)
  refine lv_ldc2 (v := (-1)) hx hb hown (hts (.constantLong RX12 269 (-1)) (List.mem_of_getElem? (i := 2) rfl)) dX12_judged_27 ?_
  exact z_lret hx hb hr hK hS (Nat.le_of_ble_eq_true rfl) (Nat.le_of_ble_eq_true rfl) hlocks dX12_judged_30 (shM, ad, IM, JM, PM ad) hW rfl
end
section
theorem dX11_stationAt_0 : decode cX11_stationAt 0 = .ok (.iload_n 1, 1) := by decide +kernel
theorem dX11_stationAt_1 : decode cX11_stationAt 1 = .ok (.ifCond .lt 20, 3) := by decide +kernel
theorem dX11_stationAt_21 : decode cX11_stationAt 21 = .ok (.aconst_null, 1) := by decide +kernel
theorem dX11_stationAt_22 : decode cX11_stationAt 22 = .ok (.areturn, 1) := by decide +kernel
theorem dX11_stationAt_4 : decode cX11_stationAt 4 = .ok (.iload_n 1, 1) := by decide +kernel
theorem dX11_stationAt_5 : decode cX11_stationAt 5 = .ok (.aload_n 0, 1) := by decide +kernel
theorem dX11_stationAt_6 : decode cX11_stationAt 6 = .ok (.getfield 178, 3) := by decide +kernel
theorem dX11_stationAt_9 : decode cX11_stationAt 9 = .ok (.if_icmp .ge 12, 3) := by decide +kernel
theorem dX11_deliver_0 : decode cX11_deliver 0 = .ok (.aload_n 0, 1) := by decide +kernel
theorem dX11_deliver_1 : decode cX11_deliver 1 = .ok (.iload_n 1, 1) := by decide +kernel
set_option maxRecDepth 20000 in
theorem ggX11_deliver_X11_stationAt : GoodIn wsX11_deliver wsX11_stationAt := goodIn_r _ [6, 7, 8, 19, 20, 21, 22, 23, 24, 25, 26, 27, 28, 29, 30, 31] (by decide +kernel) (by decide +kernel)
set_option maxRecDepth 20000 in
theorem gX11_deliver_X11_stationAt : GoodIn wsX11_deliver (wsV RX11 226 RX11 yX11_stationAt wsX11_stationAt) := goodIn_app (goodIn_of _ (by decide +kernel)) ggX11_deliver_X11_stationAt
theorem dX11_deliver_2 : decode cX11_deliver 2 = .ok (.invokevirtual 226, 3) := by decide +kernel
theorem dX11_deliver_5 : decode cX11_deliver 5 = .ok (.astore_n 3, 1) := by decide +kernel
theorem dX11_deliver_6 : decode cX11_deliver 6 = .ok (.aload_n 3, 1) := by decide +kernel
theorem dX11_deliver_7 : decode cX11_deliver 7 = .ok (.ifnull 13, 3) := by decide +kernel
theorem dX11_deliver_20 : decode cX11_deliver 20 = .ok (.iconst (-1), 1) := by decide +kernel
theorem dX11_deliver_21 : decode cX11_deliver 21 = .ok (.ireturn, 1) := by decide +kernel
theorem dX11_dip_0 : decode cX11_dip 0 = .ok (.aload_n 0, 1) := by decide +kernel
theorem dX11_dip_1 : decode cX11_dip 1 = .ok (.iload_n 1, 1) := by decide +kernel
set_option maxRecDepth 20000 in
theorem ggX11_dip_X11_stationAt : GoodIn wsX11_dip wsX11_stationAt := goodIn_r _ [9, 10, 11, 26, 27, 28, 29, 30, 31, 32, 33, 34, 35, 36, 37, 38] (by decide +kernel) (by decide +kernel)
set_option maxRecDepth 20000 in
theorem gX11_dip_X11_stationAt : GoodIn wsX11_dip (wsV RX11 226 RX11 yX11_stationAt wsX11_stationAt) := goodIn_app (goodIn_of _ (by decide +kernel)) ggX11_dip_X11_stationAt
theorem dX11_dip_2 : decode cX11_dip 2 = .ok (.invokevirtual 226, 3) := by decide +kernel
theorem dX11_dip_5 : decode cX11_dip 5 = .ok (.astore_n 3, 1) := by decide +kernel
theorem dX11_dip_6 : decode cX11_dip 6 = .ok (.aload_n 3, 1) := by decide +kernel
theorem dX11_dip_7 : decode cX11_dip 7 = .ok (.ifnull 13, 3) := by decide +kernel
theorem dX11_dip_20 : decode cX11_dip 20 = .ok (.iconst (-1), 1) := by decide +kernel
theorem dX11_dip_21 : decode cX11_dip 21 = .ok (.ireturn, 1) := by decide +kernel
theorem dX11_in_0 : decode cX11_in 0 = .ok (.aload_n 0, 1) := by decide +kernel
theorem dX11_in_1 : decode cX11_in 1 = .ok (.iload_n 1, 1) := by decide +kernel
set_option maxRecDepth 20000 in
theorem ggX11_in_X11_stationAt : GoodIn wsX11_in wsX11_stationAt := goodIn_r _ [7, 8, 9, 72, 73, 74, 75, 76, 77, 78, 79, 80, 81, 82, 83, 84] (by decide +kernel) (by decide +kernel)
set_option maxRecDepth 20000 in
theorem gX11_in_X11_stationAt : GoodIn wsX11_in (wsV RX11 226 RX11 yX11_stationAt wsX11_stationAt) := goodIn_app (goodIn_of _ (by decide +kernel)) ggX11_in_X11_stationAt
theorem dX11_in_2 : decode cX11_in 2 = .ok (.invokevirtual 226, 3) := by decide +kernel
theorem dX11_in_5 : decode cX11_in 5 = .ok (.astore_n 3, 1) := by decide +kernel
theorem dX11_in_6 : decode cX11_in 6 = .ok (.aload_n 3, 1) := by decide +kernel
theorem dX11_in_7 : decode cX11_in 7 = .ok (.ifnull 17, 3) := by decide +kernel
theorem dX11_in_24 : decode cX11_in 24 = .ok (.ldc 241, 2) := by decide +kernel
theorem dX11_in_26 : decode cX11_in 26 = .ok (.ireturn, 1) := by decide +kernel
theorem dX11_sums_0 : decode cX11_sums 0 = .ok (.aload_n 0, 1) := by decide +kernel
theorem dX11_sums_1 : decode cX11_sums 1 = .ok (.iload_n 1, 1) := by decide +kernel
set_option maxRecDepth 20000 in
theorem ggX11_sums_X11_stationAt : GoodIn wsX11_sums wsX11_stationAt := goodIn_r _ [6, 7, 8, 109, 110, 111, 112, 113, 114, 115, 116, 117, 118, 119, 120, 121] (by decide +kernel) (by decide +kernel)
set_option maxRecDepth 20000 in
theorem gX11_sums_X11_stationAt : GoodIn wsX11_sums (wsV RX11 226 RX11 yX11_stationAt wsX11_stationAt) := goodIn_app (goodIn_of _ (by decide +kernel)) ggX11_sums_X11_stationAt
theorem dX11_sums_2 : decode cX11_sums 2 = .ok (.invokevirtual 226, 3) := by decide +kernel
theorem dX11_sums_5 : decode cX11_sums 5 = .ok (.astore 5, 2) := by decide +kernel
theorem dX11_sums_7 : decode cX11_sums 7 = .ok (.aload 5, 2) := by decide +kernel
theorem dX11_sums_9 : decode cX11_sums 9 = .ok (.ifnull 23, 3) := by decide +kernel
theorem dX11_sums_32 : decode cX11_sums 32 = .ok (.ldc2_w 261, 3) := by decide +kernel
theorem dX11_sums_35 : decode cX11_sums 35 = .ok (.lreturn, 1) := by decide +kernel
theorem dX11_judged_0 : decode cX11_judged 0 = .ok (.aload_n 0, 1) := by decide +kernel
theorem dX11_judged_1 : decode cX11_judged 1 = .ok (.iload_n 1, 1) := by decide +kernel
set_option maxRecDepth 20000 in
theorem ggX11_judged_X11_stationAt : GoodIn wsX11_judged wsX11_stationAt := goodIn_r _ [7, 8, 9, 92, 93, 94, 95, 96, 97, 98, 99, 100, 101, 102, 103, 104] (by decide +kernel) (by decide +kernel)
set_option maxRecDepth 20000 in
theorem gX11_judged_X11_stationAt : GoodIn wsX11_judged (wsV RX11 226 RX11 yX11_stationAt wsX11_stationAt) := goodIn_app (goodIn_of _ (by decide +kernel)) ggX11_judged_X11_stationAt
theorem dX11_judged_2 : decode cX11_judged 2 = .ok (.invokevirtual 226, 3) := by decide +kernel
theorem dX11_judged_5 : decode cX11_judged 5 = .ok (.astore 4, 2) := by decide +kernel
theorem dX11_judged_7 : decode cX11_judged 7 = .ok (.aload 4, 2) := by decide +kernel
theorem dX11_judged_9 : decode cX11_judged 9 = .ok (.ifnull 13, 3) := by decide +kernel
theorem dX11_judged_22 : decode cX11_judged 22 = .ok (.ldc2_w 261, 3) := by decide +kernel
theorem dX11_judged_25 : decode cX11_judged 25 = .ok (.lreturn, 1) := by decide +kernel

/-- a method that answers null -/
def z_Mq (l : Launch) (y : MethodName) (ws : List Cond) (rm : Room) (av : List Value) (G : z_G) (u : z_U) (post : Option Nat → z_U → Prop) (mc ms : Nat) : Prop := ∀ sz : Nat, Met l y ws rm (z_Pc G u av sz) (va_Qq post (z_B G (z_A u sz)) (z_A u sz)) mc ms (z_A u sz)
section ZCQ
variable {p : Program} {l : Launch} {e : Env} {R : Room} {s : State} {m : MethodId} {args : Array Value} {below : List Frame} {meth : Method} {c : Code} {H : Heap} {locs : List Loc} {cells slots : Nat} {Q : State → Prop}
variable {cc : ByteArray} {pc : Nat} {ls : Array Slot} {rest st0 : List Value} {a : Array Value} {G : z_G} {A : Nat → Prop} {H0 : Heap} {u : z_U} {mc ms : Nat}
theorem z_cq {post : Option Nat → z_U → Prop} (hW : z_W G A u H) (hS : va_S A H0 H locs) (hA : ∀ q : Nat, H0.size ≤ q → A q) (hr : va_Run p l e R s m args below meth c H locs cells slots mc ms (F0 m pc ls st0) rest (va_Qq post (z_B G (z_A u H.size)) (z_A u H.size) a) (z_A u H.size))
    (kk : ∀ (r : Option Nat) (u1 : z_U) (H1 : Heap) (locs1 : List Loc), post r u1 → z_W G A u1 H1 → va_S A H0 H1 locs1 → W p l e R s m args below meth c H1 locs1 (cells + mc) (slots + ms) Q (F0 m (pc + 3) ls (va_rf r :: rest))) : W p l e R s m args below meth c H locs cells slots Q (F0 m pc ls st0) :=
  va_callq hr hS (fun q _ h => hW.free hS hA q h) (hW.free hS hA) (fun r u1 t H1 locs1 ht hvm hw hB hz1 hk1 hS1 => kk r u1 H1 locs1 hw (by rw [← ht]; exact hB.2.weaken (hW.free hS hA)) hS1)
theorem z_nret {post : Option Nat → z_U → Prop} {rt : String} (hexec : p.tables.exec = Jvm.exec) (hb : c.code = cc) (hr : meth.sig.returnType = some (.object rt)) (hK : z_K G s) (hS : va_S A s.heap H locs) (hc : cells ≤ mc) (hs : slots ≤ ms) (hlocks : meth.locks = false) (hdg : decode cc pc = .ok (.areturn, 1)) (u1 : z_U) (hW : z_W G A u1 H) (hp : post none u1) : W p l e R s m args below meth c H locs cells slots (MQ below (va_Qq post (z_B G A) A) args s mc ms A) (F0 m pc ls [.null]) :=
  W.widen hc hs (W.aret hexec hb hr (Or.inl ⟨_, rfl⟩) (Or.inl rfl) (fun t ht hWm => ⟨⟨none, u1, rfl, hp, hK.warm hWm, by rw [ht]; exact hW⟩, hS.F ht⟩) hS.2.2 hdg hlocks)
end ZCQ
theorem z_d100 {a x : Int32} (h : ¬ a < 0) (e : x = a / 100) : ∃ j : Nat, j < 2 ^ 31 ∧ a = nI j ∧ x = nI (j / 100) := by
  obtain ⟨j, hj, ej⟩ := nI_of h
  exact ⟨j, hj, ej, by rw [e, ej]; exact pk_div hj (by decide) (by decide)⟩
theorem z_in100 {a x : Int32} {n : Nat} {N : Int32} (h : ¬ a < 0) (e : x = a / 100) (hn : n < 2 ^ 31) (hN : N = nI n) (h2 : ¬ N ≤ x) : vp_in x n := by
  obtain ⟨j, hj, ej, ex⟩ := z_d100 h e
  rw [ex]
  refine vp_in_nI ?_ hn
  rcases Nat.lt_or_ge (j / 100) n with q | q
  · exact q
  · exact absurd (by rw [hN, ex]; exact nI_le q (by omega)) h2
theorem z_r100 {a : Int32} (h : ¬ a < 0) : ¬ (a - a / 100 * 100) < 0 := by
  obtain ⟨j, hj, ej⟩ := nI_of h
  rw [ej, show nI j - nI j / 100 * 100 = nI (j % 100) from pk_rem hj (by decide) (by decide)]
  exact nI_pos (by omega)
theorem zi_X11_stationAt_X11 : ∀ w ∈ wsX110, w ∈ wsX11_stationAt := fun w h => (List.mem_cons_of_mem _ (List.mem_append_right _ h))
set_option maxHeartbeats 4000000 in
set_option maxRecDepth 100000 in
theorem ct_X11_stationAt (l : Launch) (G : z_G) (ad : Nat → Nat) (a1 : Int32) : z_Mq l yX11_stationAt wsX11_stationAt { frames := 1, cells := 0, slots := 0, locals := 12 } [.ref (ad 0), .int a1] G (shX, ad, IX, JX, PX ad) (fun r u1 => u1 = (shX, ad, IX, JX, PX ad) ∧ r = none) 0 0 := by
  intro sz
  refine z_headQ (cc := cX11_stationAt) (maxL := 2) (ret := (some (.object "PetrolBoard$Station"))) (by decide) rfl (Nat.le_of_ble_eq_true rfl) ?_
  intro p e s m below meth c ls hIn hK hsz hW hl
  obtain ⟨hx, hb, hr, hml, hown, hts, hlocks, hname⟩ := hIn
  subst hsz
  have hown : s.vm.findClass RX11 = some m.cls := hown
  have hA : ∀ q : Nat, s.heap.size ≤ q → z_A (shX, ad, IX, JX, PX ad) s.heap.size q := fun q h => Or.inr h
  generalize hAe : z_A (shX, ad, IX, JX, PX ad) s.heap.size = A at *
  have hS : va_S A s.heap s.heap [] := va_S.rf
  have hl : lv_has ls 2 [(0, .ref (ad 0)), (1, .int a1)] := hl
  refine lv_iload_n hx hb dX11_stationAt_0 rfl (lv_at hl 1 rfl) ?_
  refine lv_if_lt (tgt := 21) hx hb dX11_stationAt_1 (by decide) (fun c1 => ?_) (fun c1 => ?_)
  · refine lv_null hx hb dX11_stationAt_21 ?_
    exact z_nret hx hb hr hK hS (Nat.le_of_ble_eq_true rfl) (Nat.le_of_ble_eq_true rfl) hlocks dX11_stationAt_22 (shX, ad, IX, JX, PX ad) hW ⟨rfl, rfl⟩
  · refine lv_iload_n hx hb dX11_stationAt_4 rfl (lv_at hl 1 rfl) ?_
    refine lv_aload_n hx hb dX11_stationAt_5 rfl (lv_at hl 0 rfl) ?_
    refine z_get (T := TX11) (N := 13) (ci := 11) (i := 0) (v := .int 0) hx hb hts zi_X11_stationAt_X11 hown hK hW rfl rfl 8 (by decide) (hts (.fieldLink RX11 178 "PetrolBoard" "stationNumber" "I") (List.mem_of_getElem? (i := 1) rfl)) (fun _ h => h) rfl dX11_stationAt_6 ?_
    refine lv_icmp_ge (tgt := 21) hx hb dX11_stationAt_9 (by decide) (fun c2 => ?_) (fun c2 => False.elim (by simp only [Int32.lt_iff_toInt_lt, Int32.le_iff_toInt_le, ← Int32.toInt_inj, z_l0] at c1 c2; omega))
    refine lv_null hx hb dX11_stationAt_21 ?_
    exact z_nret hx hb hr hK hS (Nat.le_of_ble_eq_true rfl) (Nat.le_of_ble_eq_true rfl) hlocks dX11_stationAt_22 (shX, ad, IX, JX, PX ad) hW ⟨rfl, rfl⟩
set_option maxHeartbeats 4000000 in
set_option maxRecDepth 100000 in
theorem ct_X11_deliver (l : Launch) (G : z_G) (ad : Nat → Nat) (a1 : Int32) (a2 : Int32) : z_M l yX11_deliver wsX11_deliver { frames := 2, cells := 0, slots := 0, locals := 34 } [.ref (ad 0), .int a1, .int a2] G (shX, ad, IX, JX, PX ad) (fun r u1 => r = (-1)) 0 0 := by
  intro sz
  refine z_headQ (cc := cX11_deliver) (maxL := 4) (ret := (some .int)) (by decide) rfl (Nat.le_of_ble_eq_true rfl) ?_
  intro p e s m below meth c ls hIn hK hsz hW hl
  obtain ⟨hx, hb, hr, hml, hown, hts, hlocks, hname⟩ := hIn
  subst hsz
  have hown : s.vm.findClass RX11 = some m.cls := hown
  have hA : ∀ q : Nat, s.heap.size ≤ q → z_A (shX, ad, IX, JX, PX ad) s.heap.size q := fun q h => Or.inr h
  generalize hAe : z_A (shX, ad, IX, JX, PX ad) s.heap.size = A at *
  have hS : va_S A s.heap s.heap [] := va_S.rf
  have hl : lv_has ls 4 [(0, .ref (ad 0)), (1, .int a1), (2, .int a2)] := hl
  refine lv_aload_n hx hb dX11_deliver_0 rfl (lv_at hl 0 rfl) ?_
  refine lv_iload_n hx hb dX11_deliver_1 rfl (lv_at hl 1 rfl) ?_
  refine z_cq hW hS hA (va_runV (As := [.int a1]) (rest := []) ⟨hx, hb, hml, hown, hts⟩ (ct_X11_stationAt l G ad a1 _) (cwV 1 hts gX11_deliver_X11_stationAt rfl rfl rfl (by decide +kernel) ⟨Nat.le_of_ble_eq_true rfl, Nat.le_of_ble_eq_true rfl⟩) (z_preV hK hW rfl rfl) rfl rfl hl.1 rfl (lv_room (Nat.le_of_ble_eq_true rfl)) dX11_deliver_2 ⟨Nat.le_of_ble_eq_true rfl, Nat.le_of_ble_eq_true rfl⟩) (fun r u1 H locs hp hW hS => ?_)
  obtain ⟨e9, rfl⟩ := hp
  rw [e9] at hW
  refine W.eq (g2 := F0 m 5 ls (.null :: [])) rfl ?_
  refine lv_astore_nN (lv' := [(3, .null), (0, .ref (ad 0)), (1, .int a1), (2, .int a2)]) hx hb dX11_deliver_5 rfl hl (by decide) rfl (fun ls hl => ?_)
  refine lv_aload_nN hx hb dX11_deliver_6 rfl (lv_at hl 0 rfl) ?_
  refine lv_ifnullN (tgt := 20) hx hb dX11_deliver_7 (by decide) ?_
  refine lv_iconst (v := (-1)) hx hb dX11_deliver_20 (by decide) ?_
  exact z_iret hx hb hr hK hS (Nat.le_of_ble_eq_true rfl) (Nat.le_of_ble_eq_true rfl) hlocks dX11_deliver_21 (shX, ad, IX, JX, PX ad) hW rfl
set_option maxHeartbeats 4000000 in
set_option maxRecDepth 100000 in
theorem ct_X11_dip (l : Launch) (G : z_G) (ad : Nat → Nat) (a1 : Int32) (a2 : Int32) : z_M l yX11_dip wsX11_dip { frames := 2, cells := 0, slots := 0, locals := 34 } [.ref (ad 0), .int a1, .int a2] G (shX, ad, IX, JX, PX ad) (fun r u1 => r = (-1)) 0 0 := by
  intro sz
  refine z_headQ (cc := cX11_dip) (maxL := 4) (ret := (some .int)) (by decide) rfl (Nat.le_of_ble_eq_true rfl) ?_
  intro p e s m below meth c ls hIn hK hsz hW hl
  obtain ⟨hx, hb, hr, hml, hown, hts, hlocks, hname⟩ := hIn
  subst hsz
  have hown : s.vm.findClass RX11 = some m.cls := hown
  have hA : ∀ q : Nat, s.heap.size ≤ q → z_A (shX, ad, IX, JX, PX ad) s.heap.size q := fun q h => Or.inr h
  generalize hAe : z_A (shX, ad, IX, JX, PX ad) s.heap.size = A at *
  have hS : va_S A s.heap s.heap [] := va_S.rf
  have hl : lv_has ls 4 [(0, .ref (ad 0)), (1, .int a1), (2, .int a2)] := hl
  refine lv_aload_n hx hb dX11_dip_0 rfl (lv_at hl 0 rfl) ?_
  refine lv_iload_n hx hb dX11_dip_1 rfl (lv_at hl 1 rfl) ?_
  refine z_cq hW hS hA (va_runV (As := [.int a1]) (rest := []) ⟨hx, hb, hml, hown, hts⟩ (ct_X11_stationAt l G ad a1 _) (cwV 1 hts gX11_dip_X11_stationAt rfl rfl rfl (by decide +kernel) ⟨Nat.le_of_ble_eq_true rfl, Nat.le_of_ble_eq_true rfl⟩) (z_preV hK hW rfl rfl) rfl rfl hl.1 rfl (lv_room (Nat.le_of_ble_eq_true rfl)) dX11_dip_2 ⟨Nat.le_of_ble_eq_true rfl, Nat.le_of_ble_eq_true rfl⟩) (fun r u1 H locs hp hW hS => ?_)
  obtain ⟨e9, rfl⟩ := hp
  rw [e9] at hW
  refine W.eq (g2 := F0 m 5 ls (.null :: [])) rfl ?_
  refine lv_astore_nN (lv' := [(3, .null), (0, .ref (ad 0)), (1, .int a1), (2, .int a2)]) hx hb dX11_dip_5 rfl hl (by decide) rfl (fun ls hl => ?_)
  refine lv_aload_nN hx hb dX11_dip_6 rfl (lv_at hl 0 rfl) ?_
  refine lv_ifnullN (tgt := 20) hx hb dX11_dip_7 (by decide) ?_
  refine lv_iconst (v := (-1)) hx hb dX11_dip_20 (by decide) ?_
  exact z_iret hx hb hr hK hS (Nat.le_of_ble_eq_true rfl) (Nat.le_of_ble_eq_true rfl) hlocks dX11_dip_21 (shX, ad, IX, JX, PX ad) hW rfl
set_option maxHeartbeats 4000000 in
set_option maxRecDepth 100000 in
theorem ct_X11_in (l : Launch) (G : z_G) (ad : Nat → Nat) (a1 : Int32) (a2 : Int32) : z_M l yX11_in wsX11_in { frames := 2, cells := 0, slots := 0, locals := 33 } [.ref (ad 0), .int a1, .int a2] G (shX, ad, IX, JX, PX ad) (fun r u1 => r = (-2000000000)) 0 0 := by
  intro sz
  refine z_headQ (cc := cX11_in) (maxL := 4) (ret := (some .int)) (by decide) rfl (Nat.le_of_ble_eq_true rfl) ?_
  intro p e s m below meth c ls hIn hK hsz hW hl
  obtain ⟨hx, hb, hr, hml, hown, hts, hlocks, hname⟩ := hIn
  subst hsz
  have hown : s.vm.findClass RX11 = some m.cls := hown
  have hA : ∀ q : Nat, s.heap.size ≤ q → z_A (shX, ad, IX, JX, PX ad) s.heap.size q := fun q h => Or.inr h
  generalize hAe : z_A (shX, ad, IX, JX, PX ad) s.heap.size = A at *
  have hS : va_S A s.heap s.heap [] := va_S.rf
  have hl : lv_has ls 4 [(0, .ref (ad 0)), (1, .int a1), (2, .int a2)] := hl
  refine lv_aload_n hx hb dX11_in_0 rfl (lv_at hl 0 rfl) ?_
  refine lv_iload_n hx hb dX11_in_1 rfl (lv_at hl 1 rfl) ?_
  refine z_cq hW hS hA (va_runV (As := [.int a1]) (rest := []) ⟨hx, hb, hml, hown, hts⟩ (ct_X11_stationAt l G ad a1 _) (cwV 1 hts gX11_in_X11_stationAt rfl rfl rfl (by decide +kernel) ⟨Nat.le_of_ble_eq_true rfl, Nat.le_of_ble_eq_true rfl⟩) (z_preV hK hW rfl rfl) rfl rfl hl.1 rfl (lv_room (Nat.le_of_ble_eq_true rfl)) dX11_in_2 ⟨Nat.le_of_ble_eq_true rfl, Nat.le_of_ble_eq_true rfl⟩) (fun r u1 H locs hp hW hS => ?_)
  obtain ⟨e9, rfl⟩ := hp
  rw [e9] at hW
  refine W.eq (g2 := F0 m 5 ls (.null :: [])) rfl ?_
  refine lv_astore_nN (lv' := [(3, .null), (0, .ref (ad 0)), (1, .int a1), (2, .int a2)]) hx hb dX11_in_5 rfl hl (by decide) rfl (fun ls hl => ?_)
  refine lv_aload_nN hx hb dX11_in_6 rfl (lv_at hl 0 rfl) ?_
  refine lv_ifnullN (tgt := 24) hx hb dX11_in_7 (by decide) ?_
  refine lv_ldc (v := (-2000000000)) hx hb hown (hts (.constant RX11 241 (-2000000000)) (List.mem_of_getElem? (i := 2) rfl)) dX11_in_24 ?_
  exact z_iret hx hb hr hK hS (Nat.le_of_ble_eq_true rfl) (Nat.le_of_ble_eq_true rfl) hlocks dX11_in_26 (shX, ad, IX, JX, PX ad) hW rfl
set_option maxHeartbeats 4000000 in
set_option maxRecDepth 100000 in
theorem ct_X11_sums (l : Launch) (G : z_G) (ad : Nat → Nat) (a1 : Int32) (a2 : Int32) (a3 : Int32) (a4 : Int32) : z_Ml l yX11_sums wsX11_sums { frames := 2, cells := 0, slots := 0, locals := 34 } [.ref (ad 0), .int a1, .int a2, .int a3, .int a4] G (shX, ad, IX, JX, PX ad) (fun r u1 => r = (-1)) 0 0 := by
  intro sz
  refine z_headQ (cc := cX11_sums) (maxL := 6) (ret := (some .long)) (by decide) rfl (Nat.le_of_ble_eq_true rfl) ?_
  intro p e s m below meth c ls hIn hK hsz hW hl
  obtain ⟨hx, hb, hr, hml, hown, hts, hlocks, hname⟩ := hIn
  subst hsz
  have hown : s.vm.findClass RX11 = some m.cls := hown
  have hA : ∀ q : Nat, s.heap.size ≤ q → z_A (shX, ad, IX, JX, PX ad) s.heap.size q := fun q h => Or.inr h
  generalize hAe : z_A (shX, ad, IX, JX, PX ad) s.heap.size = A at *
  have hS : va_S A s.heap s.heap [] := va_S.rf
  have hl : lv_has ls 6 [(0, .ref (ad 0)), (1, .int a1), (2, .int a2), (3, .int a3), (4, .int a4)] := hl
  refine lv_aload_n hx hb dX11_sums_0 rfl (lv_at hl 0 rfl) ?_
  refine lv_iload_n hx hb dX11_sums_1 rfl (lv_at hl 1 rfl) ?_
  refine z_cq hW hS hA (va_runV (As := [.int a1]) (rest := []) ⟨hx, hb, hml, hown, hts⟩ (ct_X11_stationAt l G ad a1 _) (cwV 1 hts gX11_sums_X11_stationAt rfl rfl rfl (by decide +kernel) ⟨Nat.le_of_ble_eq_true rfl, Nat.le_of_ble_eq_true rfl⟩) (z_preV hK hW rfl rfl) rfl rfl hl.1 rfl (lv_room (Nat.le_of_ble_eq_true rfl)) dX11_sums_2 ⟨Nat.le_of_ble_eq_true rfl, Nat.le_of_ble_eq_true rfl⟩) (fun r u1 H locs hp hW hS => ?_)
  obtain ⟨e9, rfl⟩ := hp
  rw [e9] at hW
  refine W.eq (g2 := F0 m 5 ls (.null :: [])) rfl ?_
  refine lv_astoreN (lv' := [(5, .null), (0, .ref (ad 0)), (1, .int a1), (2, .int a2), (3, .int a3), (4, .int a4)]) hx hb dX11_sums_5 hl (by decide) rfl (fun ls hl => ?_)
  refine lv_aloadN hx hb dX11_sums_7 (lv_at hl 0 rfl) ?_
  refine lv_ifnullN (tgt := 32) hx hb dX11_sums_9 (by decide) ?_
  refine lv_ldc2 (v := (-1)) hx hb hown (hts (.constantLong RX11 261 (-1)) (List.mem_of_getElem? (i := 1) rfl)) dX11_sums_32 ?_
  exact z_lret hx hb hr hK hS (Nat.le_of_ble_eq_true rfl) (Nat.le_of_ble_eq_true rfl) hlocks dX11_sums_35 (shX, ad, IX, JX, PX ad) hW rfl
set_option maxHeartbeats 4000000 in
set_option maxRecDepth 100000 in
theorem ct_X11_judged (l : Launch) (G : z_G) (ad : Nat → Nat) (a1 : Int32) (a2 : Int32) (a3 : Int32) : z_Ml l yX11_judged wsX11_judged { frames := 2, cells := 0, slots := 0, locals := 33 } [.ref (ad 0), .int a1, .int a2, .int a3] G (shX, ad, IX, JX, PX ad) (fun r u1 => r = (-1)) 0 0 := by
  intro sz
  refine z_headQ (cc := cX11_judged) (maxL := 5) (ret := (some .long)) (by decide) rfl (Nat.le_of_ble_eq_true rfl) ?_
  intro p e s m below meth c ls hIn hK hsz hW hl
  obtain ⟨hx, hb, hr, hml, hown, hts, hlocks, hname⟩ := hIn
  subst hsz
  have hown : s.vm.findClass RX11 = some m.cls := hown
  have hA : ∀ q : Nat, s.heap.size ≤ q → z_A (shX, ad, IX, JX, PX ad) s.heap.size q := fun q h => Or.inr h
  generalize hAe : z_A (shX, ad, IX, JX, PX ad) s.heap.size = A at *
  have hS : va_S A s.heap s.heap [] := va_S.rf
  have hl : lv_has ls 5 [(0, .ref (ad 0)), (1, .int a1), (2, .int a2), (3, .int a3)] := hl
  refine lv_aload_n hx hb dX11_judged_0 rfl (lv_at hl 0 rfl) ?_
  refine lv_iload_n hx hb dX11_judged_1 rfl (lv_at hl 1 rfl) ?_
  refine z_cq hW hS hA (va_runV (As := [.int a1]) (rest := []) ⟨hx, hb, hml, hown, hts⟩ (ct_X11_stationAt l G ad a1 _) (cwV 1 hts gX11_judged_X11_stationAt rfl rfl rfl (by decide +kernel) ⟨Nat.le_of_ble_eq_true rfl, Nat.le_of_ble_eq_true rfl⟩) (z_preV hK hW rfl rfl) rfl rfl hl.1 rfl (lv_room (Nat.le_of_ble_eq_true rfl)) dX11_judged_2 ⟨Nat.le_of_ble_eq_true rfl, Nat.le_of_ble_eq_true rfl⟩) (fun r u1 H locs hp hW hS => ?_)
  obtain ⟨e9, rfl⟩ := hp
  rw [e9] at hW
  refine W.eq (g2 := F0 m 5 ls (.null :: [])) rfl ?_
  refine lv_astoreN (lv' := [(4, .null), (0, .ref (ad 0)), (1, .int a1), (2, .int a2), (3, .int a3)]) hx hb dX11_judged_5 hl (by decide) rfl (fun ls hl => ?_)
  refine lv_aloadN hx hb dX11_judged_7 (lv_at hl 0 rfl) ?_
  refine lv_ifnullN (tgt := 22) hx hb dX11_judged_9 (by decide) ?_
  refine lv_ldc2 (v := (-1)) hx hb hown (hts (.constantLong RX11 261 (-1)) (List.mem_of_getElem? (i := 1) rfl)) dX11_judged_22 ?_
  exact z_lret hx hb hr hK hS (Nat.le_of_ble_eq_true rfl) (Nat.le_of_ble_eq_true rfl) hlocks dX11_judged_25 (shX, ad, IX, JX, PX ad) hW rfl
end
section
theorem dX0_has_0 : decode cX0_has 0 = .ok (.iload_n 1, 1) := by decide +kernel
theorem dX0_has_1 : decode cX0_has 1 = .ok (.bipush 100, 2) := by decide +kernel
theorem dX0_has_3 : decode cX0_has 3 = .ok (.idiv, 1) := by decide +kernel
theorem dX0_has_4 : decode cX0_has 4 = .ok (.istore_n 2, 1) := by decide +kernel
theorem dX0_has_5 : decode cX0_has 5 = .ok (.iload_n 1, 1) := by decide +kernel
theorem dX0_has_6 : decode cX0_has 6 = .ok (.ifCond .lt 29, 3) := by decide +kernel
theorem dX0_has_35 : decode cX0_has 35 = .ok (.iconst 0, 1) := by decide +kernel
theorem dX0_has_36 : decode cX0_has 36 = .ok (.ireturn, 1) := by decide +kernel
theorem dX0_has_9 : decode cX0_has 9 = .ok (.iload_n 2, 1) := by decide +kernel
theorem dX0_has_10 : decode cX0_has 10 = .ok (.aload_n 0, 1) := by decide +kernel
theorem dX0_has_11 : decode cX0_has 11 = .ok (.getfield 9, 3) := by decide +kernel
theorem dX0_has_14 : decode cX0_has 14 = .ok (.arraylength, 1) := by decide +kernel
theorem dX0_has_15 : decode cX0_has 15 = .ok (.if_icmp .ge 20, 3) := by decide +kernel
theorem dX0_has_18 : decode cX0_has 18 = .ok (.iload_n 1, 1) := by decide +kernel
theorem dX0_has_19 : decode cX0_has 19 = .ok (.bipush 100, 2) := by decide +kernel
theorem dX0_has_21 : decode cX0_has 21 = .ok (.irem, 1) := by decide +kernel
theorem dX0_has_22 : decode cX0_has 22 = .ok (.aload_n 0, 1) := by decide +kernel
theorem dX0_has_23 : decode cX0_has 23 = .ok (.getfield 9, 3) := by decide +kernel
theorem dX0_has_26 : decode cX0_has 26 = .ok (.iload_n 2, 1) := by decide +kernel
theorem dX0_has_27 : decode cX0_has 27 = .ok (.iaload, 1) := by decide +kernel
theorem dX0_has_28 : decode cX0_has 28 = .ok (.if_icmp .ge 7, 3) := by decide +kernel
theorem dX12_isCoupon_0 : decode cX12_isCoupon 0 = .ok (.iload_n 1, 1) := by decide +kernel
theorem dX12_isCoupon_1 : decode cX12_isCoupon 1 = .ok (.ifCond .lt 31, 3) := by decide +kernel
theorem dX12_isCoupon_32 : decode cX12_isCoupon 32 = .ok (.iconst 0, 1) := by decide +kernel
theorem dX12_isCoupon_33 : decode cX12_isCoupon 33 = .ok (.ireturn, 1) := by decide +kernel
theorem dX12_isCoupon_4 : decode cX12_isCoupon 4 = .ok (.iload_n 1, 1) := by decide +kernel
theorem dX12_isCoupon_5 : decode cX12_isCoupon 5 = .ok (.ldc 109, 2) := by decide +kernel
theorem dX12_isCoupon_7 : decode cX12_isCoupon 7 = .ok (.if_icmp .ge 25, 3) := by decide +kernel
theorem dX12_isCoupon_10 : decode cX12_isCoupon 10 = .ok (.aload_n 0, 1) := by decide +kernel
theorem dX12_isCoupon_11 : decode cX12_isCoupon 11 = .ok (.getfield 106, 3) := by decide +kernel
theorem dX12_isCoupon_14 : decode cX12_isCoupon 14 = .ok (.iload_n 1, 1) := by decide +kernel
theorem dX12_isCoupon_15 : decode cX12_isCoupon 15 = .ok (.bipush 100, 2) := by decide +kernel
theorem dX12_isCoupon_17 : decode cX12_isCoupon 17 = .ok (.idiv, 1) := by decide +kernel
theorem dX12_isCoupon_18 : decode cX12_isCoupon 18 = .ok (.iaload, 1) := by decide +kernel
theorem dX12_isCoupon_19 : decode cX12_isCoupon 19 = .ok (.iconst 1, 1) := by decide +kernel
theorem dX12_isCoupon_20 : decode cX12_isCoupon 20 = .ok (.isub, 1) := by decide +kernel
theorem dX12_isCoupon_21 : decode cX12_isCoupon 21 = .ok (.iload_n 1, 1) := by decide +kernel
theorem dX12_isCoupon_22 : decode cX12_isCoupon 22 = .ok (.bipush 100, 2) := by decide +kernel
theorem dX12_isCoupon_24 : decode cX12_isCoupon 24 = .ok (.irem, 1) := by decide +kernel
theorem dX12_isCoupon_25 : decode cX12_isCoupon 25 = .ok (.if_icmp .le 7, 3) := by decide +kernel
theorem dX0_ownerOf_0 : decode cX0_ownerOf 0 = .ok (.aload_n 0, 1) := by decide +kernel
theorem dX0_ownerOf_1 : decode cX0_ownerOf 1 = .ok (.iload_n 1, 1) := by decide +kernel
set_option maxRecDepth 20000 in
theorem ggX0_ownerOf_X0_has : GoodIn wsX0_ownerOf wsX0_has := goodIn_r _ [6, 7, 17, 18, 19, 20, 21] (by decide +kernel) (by decide +kernel)
set_option maxRecDepth 20000 in
theorem gX0_ownerOf_X0_has : GoodIn wsX0_ownerOf (wsV RX0 38 RX0 yX0_has wsX0_has) := goodIn_app (goodIn_of _ (by decide +kernel)) ggX0_ownerOf_X0_has
theorem dX0_ownerOf_2 : decode cX0_ownerOf 2 = .ok (.invokevirtual 38, 3) := by decide +kernel
theorem dX0_ownerOf_5 : decode cX0_ownerOf 5 = .ok (.ifCond .ne 5, 3) := by decide +kernel
theorem dX0_ownerOf_8 : decode cX0_ownerOf 8 = .ok (.iconst (-1), 1) := by decide +kernel
theorem dX0_ownerOf_9 : decode cX0_ownerOf 9 = .ok (.ireturn, 1) := by decide +kernel
theorem dX11_owner_0 : decode cX11_owner 0 = .ok (.aload_n 0, 1) := by decide +kernel
theorem dX11_owner_1 : decode cX11_owner 1 = .ok (.getfield 37, 3) := by decide +kernel
theorem dX11_owner_4 : decode cX11_owner 4 = .ok (.iload_n 1, 1) := by decide +kernel
set_option maxRecDepth 20000 in
theorem ggX11_owner_X0_ownerOf : GoodIn wsX11_owner wsX0_ownerOf := goodIn_r _ [6, 7, 8, 9, 10, 5, 11, 12, 13, 14, 15, 16, 17, 18, 19, 20, 21, 35, 36, 37, 38, 39] (by decide +kernel) (by decide +kernel)
set_option maxRecDepth 20000 in
theorem gX11_owner_X0_ownerOf : GoodIn wsX11_owner (wsV RX11 175 RX0 yX0_ownerOf wsX0_ownerOf) := goodIn_app (goodIn_of _ (by decide +kernel)) ggX11_owner_X0_ownerOf
theorem dX11_owner_5 : decode cX11_owner 5 = .ok (.invokevirtual 175, 3) := by decide +kernel
theorem dX11_owner_8 : decode cX11_owner 8 = .ok (.ireturn, 1) := by decide +kernel
theorem dX11_lend_0 : decode cX11_lend 0 = .ok (.aload_n 0, 1) := by decide +kernel
theorem dX11_lend_1 : decode cX11_lend 1 = .ok (.getfield 37, 3) := by decide +kernel
theorem dX11_lend_4 : decode cX11_lend 4 = .ok (.iload_n 1, 1) := by decide +kernel
set_option maxRecDepth 20000 in
theorem ggX11_lend_X0_has : GoodIn wsX11_lend wsX0_has := goodIn_r _ [10, 11, 92, 93, 94, 95, 96] (by decide +kernel) (by decide +kernel)
set_option maxRecDepth 20000 in
theorem gX11_lend_X0_has : GoodIn wsX11_lend (wsV RX11 156 RX0 yX0_has wsX0_has) := goodIn_app (goodIn_of _ (by decide +kernel)) ggX11_lend_X0_has
theorem dX11_lend_5 : decode cX11_lend 5 = .ok (.invokevirtual 156, 3) := by decide +kernel
theorem dX11_lend_8 : decode cX11_lend 8 = .ok (.ifCond .eq 22, 3) := by decide +kernel
theorem dX11_lend_30 : decode cX11_lend 30 = .ok (.iconst 0, 1) := by decide +kernel
theorem dX11_lend_31 : decode cX11_lend 31 = .ok (.ireturn, 1) := by decide +kernel
theorem dX12_owner_0 : decode cX12_owner 0 = .ok (.aload_n 0, 1) := by decide +kernel
theorem dX12_owner_1 : decode cX12_owner 1 = .ok (.iload_n 1, 1) := by decide +kernel
set_option maxRecDepth 20000 in
theorem ggX12_owner_X12_isCoupon : GoodIn wsX12_owner wsX12_isCoupon := goodIn_r _ [5, 6, 7, 13, 14, 15, 16, 17, 18, 19, 20, 21, 22, 23, 24, 25, 26, 27, 28, 29, 30, 31, 32, 33, 34, 35, 36, 37, 38, 39, 40, 41, 42, 43, 44, 45, 46, 47, 48, 49, 50, 51, 52, 53, 54, 55, 56, 57, 58, 59, 60, 61, 62, 63, 64, 65, 66, 67, 68, 69, 70, 71, 72, 73, 74, 75, 76, 77, 78, 79, 80, 81, 82, 83, 84, 85, 86, 87, 88, 89, 90, 91, 92, 93, 94, 95, 96, 97, 98, 99, 100, 101, 102, 103, 104, 105, 106, 107, 108] (by decide +kernel) (by decide +kernel)
set_option maxRecDepth 20000 in
theorem gX12_owner_X12_isCoupon : GoodIn wsX12_owner (wsV RX12 452 RX12 yX12_isCoupon wsX12_isCoupon) := goodIn_app (goodIn_of _ (by decide +kernel)) ggX12_owner_X12_isCoupon
theorem dX12_owner_2 : decode cX12_owner 2 = .ok (.invokevirtual 452, 3) := by decide +kernel
theorem dX12_owner_5 : decode cX12_owner 5 = .ok (.ifCond .eq 11, 3) := by decide +kernel
theorem dX12_owner_16 : decode cX12_owner 16 = .ok (.iconst (-1), 1) := by decide +kernel
theorem dX12_owner_17 : decode cX12_owner 17 = .ok (.ireturn, 1) := by decide +kernel
theorem dX12_lend_0 : decode cX12_lend 0 = .ok (.aload_n 0, 1) := by decide +kernel
theorem dX12_lend_1 : decode cX12_lend 1 = .ok (.iload_n 1, 1) := by decide +kernel
set_option maxRecDepth 20000 in
theorem ggX12_lend_X12_isCoupon : GoodIn wsX12_lend wsX12_isCoupon := goodIn_r _ [9, 10, 11, 32, 33, 34, 35, 36, 37, 38, 39, 40, 41, 42, 43, 44, 45, 46, 47, 48, 49, 50, 51, 52, 53, 54, 55, 56, 57, 58, 59, 60, 61, 62, 63, 64, 65, 66, 67, 68, 69, 70, 71, 72, 73, 74, 75, 76, 77, 78, 79, 80, 81, 82, 83, 84, 85, 86, 87, 88, 89, 90, 91, 92, 93, 94, 95, 96, 97, 98, 99, 100, 101, 102, 103, 104, 105, 106, 107, 108, 109, 110, 111, 112, 113, 114, 115, 116, 117, 118, 119, 120, 121, 122, 123, 124, 125, 126, 127] (by decide +kernel) (by decide +kernel)
set_option maxRecDepth 20000 in
theorem gX12_lend_X12_isCoupon : GoodIn wsX12_lend (wsV RX12 452 RX12 yX12_isCoupon wsX12_isCoupon) := goodIn_app (goodIn_of _ (by decide +kernel)) ggX12_lend_X12_isCoupon
theorem dX12_lend_2 : decode cX12_lend 2 = .ok (.invokevirtual 452, 3) := by decide +kernel
theorem dX12_lend_5 : decode cX12_lend 5 = .ok (.ifCond .eq 38, 3) := by decide +kernel
theorem dX12_lend_43 : decode cX12_lend 43 = .ok (.iconst 0, 1) := by decide +kernel
theorem dX12_lend_44 : decode cX12_lend 44 = .ok (.ireturn, 1) := by decide +kernel
theorem dX12_inForce_0 : decode cX12_inForce 0 = .ok (.iconst (-1), 1) := by decide +kernel
theorem dX12_inForce_1 : decode cX12_inForce 1 = .ok (.istore_n 3, 1) := by decide +kernel
theorem dX12_inForce_2 : decode cX12_inForce 2 = .ok (.iconst 0, 1) := by decide +kernel
theorem dX12_inForce_3 : decode cX12_inForce 3 = .ok (.istore 4, 2) := by decide +kernel
theorem dX12_inForce_5 : decode cX12_inForce 5 = .ok (.iload 4, 2) := by decide +kernel
theorem dX12_inForce_7 : decode cX12_inForce 7 = .ok (.aload_n 0, 1) := by decide +kernel
theorem dX12_inForce_8 : decode cX12_inForce 8 = .ok (.getfield 408, 3) := by decide +kernel
theorem dX12_inForce_11 : decode cX12_inForce 11 = .ok (.if_icmp .ge 54, 3) := by decide +kernel
theorem dX12_inForce_65 : decode cX12_inForce 65 = .ok (.iload_n 3, 1) := by decide +kernel
theorem dX12_inForce_66 : decode cX12_inForce 66 = .ok (.ireturn, 1) := by decide +kernel

theorem z_m1r {a : Int32} (h : ¬ a < 0) : (-1 : Int32) ≤ (a - a / 100 * 100) := by
  obtain ⟨j, hj, ej⟩ := nI_of h
  rw [ej, show nI j - nI j / 100 * 100 = nI (j % 100) from pk_rem hj (by decide) (by decide), Int32.le_iff_toInt_le, nI_toInt (by omega)]
  exact Int.le_trans (show (-1 : Int32).toInt ≤ 0 by decide) (Int.natCast_nonneg _)
theorem z_in72 {a : Int32} (h : ¬ a < 0) (h2 : ¬ 72000 ≤ a) : vp_in (a / 100) 720 := by
  obtain ⟨j, hj, ej, ex⟩ := z_d100 h (rfl : a / 100 = a / 100)
  rw [ex]
  refine vp_in_nI ?_ (by decide)
  rcases Nat.lt_or_ge j 72000 with q | q
  · omega
  · exact absurd (by rw [ej]; exact nI_le q hj) h2
theorem zi_X0_has_X0 : ∀ w ∈ wsX00, w ∈ wsX0_has := fun w h => (List.mem_cons_of_mem _ (List.mem_append_right _ h))
set_option maxHeartbeats 4000000 in
set_option maxRecDepth 100000 in
theorem ct_X0_has (l : Launch) (G : z_G) (ad : Nat → Nat) (a1 : Int32) : z_M l yX0_has wsX0_has { frames := 1, cells := 0, slots := 0, locals := 12 } [.ref (ad 26), .int a1] G (shX, ad, IX, JX, PX ad) (fun r u1 => u1 = (shX, ad, IX, JX, PX ad) ∧ r = 0) 0 0 := by
  intro sz
  refine z_headQ (cc := cX0_has) (maxL := 3) (ret := (some .boolean)) (by decide) rfl (Nat.le_of_ble_eq_true rfl) ?_
  intro p e s m below meth c ls hIn hK hsz hW hl
  obtain ⟨hx, hb, hr, hml, hown, hts, hlocks, hname⟩ := hIn
  subst hsz
  have hown : s.vm.findClass RX0 = some m.cls := hown
  have hA : ∀ q : Nat, s.heap.size ≤ q → z_A (shX, ad, IX, JX, PX ad) s.heap.size q := fun q h => Or.inr h
  generalize hAe : z_A (shX, ad, IX, JX, PX ad) s.heap.size = A at *
  have hS : va_S A s.heap s.heap [] := va_S.rf
  have hl : lv_has ls 3 [(0, .ref (ad 26)), (1, .int a1)] := hl
  refine lv_iload_n hx hb dX0_has_0 rfl (lv_at hl 1 rfl) ?_
  refine lv_bipush (v := 100) hx hb dX0_has_1 (by decide) ?_
  refine lv_idiv hx hb dX0_has_3 (by decide) ?_
  refine lv_topi (fun x1 ex1 => ?_)
  refine lv_istore_n (lv' := [(2, .int x1), (0, .ref (ad 26)), (1, .int a1)]) hx hb dX0_has_4 rfl hl (by decide) rfl (fun ls hl => ?_)
  refine lv_iload_n hx hb dX0_has_5 rfl (lv_at hl 2 rfl) ?_
  refine lv_if_lt (tgt := 35) hx hb dX0_has_6 (by decide) (fun c2 => ?_) (fun c2 => ?_)
  · refine lv_iconst (v := 0) hx hb dX0_has_35 (by decide) ?_
    exact z_zret hx hb hr (by decide) hK hS (Nat.le_of_ble_eq_true rfl) (Nat.le_of_ble_eq_true rfl) hlocks dX0_has_36 (shX, ad, IX, JX, PX ad) hW ⟨rfl, rfl⟩
  · refine lv_iload_n hx hb dX0_has_9 rfl (lv_at hl 0 rfl) ?_
    refine lv_aload_n hx hb dX0_has_10 rfl (lv_at hl 1 rfl) ?_
    refine z_get (T := TX0) (N := 5) (ci := 0) (i := 26) (v := .ref (ad 27)) hx hb hts zi_X0_has_X0 hown hK hW rfl rfl 0 (by decide) (hts (.fieldLink RX0 9 "PetrolBoard$Coupons" "issued" "[I") (List.mem_of_getElem? (i := 1) rfl)) (fun _ h => h) rfl dX0_has_11 ?_
    refine z_alen (i := 27) (v := 720) hx hb hK hW rfl (by simp [z_tys]) (by rfl) dX0_has_14 ?_
    refine lv_icmp_ge (tgt := 35) hx hb dX0_has_15 (by decide) (fun c3 => ?_) (fun c3 => ?_)
    · refine lv_iconst (v := 0) hx hb dX0_has_35 (by decide) ?_
      exact z_zret hx hb hr (by decide) hK hS (Nat.le_of_ble_eq_true rfl) (Nat.le_of_ble_eq_true rfl) hlocks dX0_has_36 (shX, ad, IX, JX, PX ad) hW ⟨rfl, rfl⟩
    · refine lv_iload_n hx hb dX0_has_18 rfl (lv_at hl 2 rfl) ?_
      refine lv_bipush (v := 100) hx hb dX0_has_19 (by decide) ?_
      refine lv_irem hx hb dX0_has_21 (by decide) ?_
      refine lv_aload_n hx hb dX0_has_22 rfl (lv_at hl 1 rfl) ?_
      refine z_get (T := TX0) (N := 5) (ci := 0) (i := 26) (v := .ref (ad 27)) hx hb hts zi_X0_has_X0 hown hK hW rfl rfl 0 (by decide) (hts (.fieldLink RX0 9 "PetrolBoard$Coupons" "issued" "[I") (List.mem_of_getElem? (i := 1) rfl)) (fun _ h => h) rfl dX0_has_23 ?_
      refine lv_iload_n hx hb dX0_has_26 rfl (lv_at hl 0 rfl) ?_
      refine z_iald (i := 27) hx hb hK hW rfl (z_in100 c2 ex1 (by decide) (rfl : (720 : Int32) = nI 720) c3) dX0_has_27 ?_
      refine z_topi (v := (-1)) rfl ?_
      refine lv_icmp_ge (tgt := 35) hx hb dX0_has_28 (by decide) (fun c4 => ?_) (fun c4 => absurd (z_m1r c2) c4)
      refine lv_iconst (v := 0) hx hb dX0_has_35 (by decide) ?_
      exact z_zret hx hb hr (by decide) hK hS (Nat.le_of_ble_eq_true rfl) (Nat.le_of_ble_eq_true rfl) hlocks dX0_has_36 (shX, ad, IX, JX, PX ad) hW ⟨rfl, rfl⟩
theorem zi_X12_isCoupon_X12 : ∀ w ∈ wsX120, w ∈ wsX12_isCoupon := fun w h => (List.mem_cons_of_mem _ (List.mem_append_right _ h))
set_option maxHeartbeats 4000000 in
set_option maxRecDepth 100000 in
theorem ct_X12_isCoupon (l : Launch) (G : z_G) (ad : Nat → Nat) (a1 : Int32) : z_M l yX12_isCoupon wsX12_isCoupon { frames := 1, cells := 0, slots := 0, locals := 12 } [.ref (ad 0), .int a1] G (shM, ad, IM, JM, PM ad) (fun r u1 => u1 = (shM, ad, IM, JM, PM ad) ∧ r = 0) 0 0 := by
  intro sz
  refine z_headQ (cc := cX12_isCoupon) (maxL := 2) (ret := (some .boolean)) (by decide) rfl (Nat.le_of_ble_eq_true rfl) ?_
  intro p e s m below meth c ls hIn hK hsz hW hl
  obtain ⟨hx, hb, hr, hml, hown, hts, hlocks, hname⟩ := hIn
  subst hsz
  have hown : s.vm.findClass RX12 = some m.cls := hown
  have hA : ∀ q : Nat, s.heap.size ≤ q → z_A (shM, ad, IM, JM, PM ad) s.heap.size q := fun q h => Or.inr h
  generalize hAe : z_A (shM, ad, IM, JM, PM ad) s.heap.size = A at *
  have hS : va_S A s.heap s.heap [] := va_S.rf
  have hl : lv_has ls 2 [(0, .ref (ad 0)), (1, .int a1)] := hl
  refine lv_iload_n hx hb dX12_isCoupon_0 rfl (lv_at hl 1 rfl) ?_
  refine lv_if_lt (tgt := 32) hx hb dX12_isCoupon_1 (by decide) (fun c1 => ?_) (fun c1 => ?_)
  · refine lv_iconst (v := 0) hx hb dX12_isCoupon_32 (by decide) ?_
    exact z_zret hx hb hr (by decide) hK hS (Nat.le_of_ble_eq_true rfl) (Nat.le_of_ble_eq_true rfl) hlocks dX12_isCoupon_33 (shM, ad, IM, JM, PM ad) hW ⟨rfl, rfl⟩
  · refine lv_iload_n hx hb dX12_isCoupon_4 rfl (lv_at hl 1 rfl) ?_
    refine lv_ldc (v := 72000) hx hb hown (hts (.constant RX12 109 (72000)) (List.mem_of_getElem? (i := 1) rfl)) dX12_isCoupon_5 ?_
    refine lv_icmp_ge (tgt := 32) hx hb dX12_isCoupon_7 (by decide) (fun c2 => ?_) (fun c2 => ?_)
    · refine lv_iconst (v := 0) hx hb dX12_isCoupon_32 (by decide) ?_
      exact z_zret hx hb hr (by decide) hK hS (Nat.le_of_ble_eq_true rfl) (Nat.le_of_ble_eq_true rfl) hlocks dX12_isCoupon_33 (shM, ad, IM, JM, PM ad) hW ⟨rfl, rfl⟩
    · refine lv_aload_n hx hb dX12_isCoupon_10 rfl (lv_at hl 0 rfl) ?_
      refine z_get (T := TX12) (N := 96) (ci := 12) (i := 0) (v := .ref (ad 31)) hx hb hts zi_X12_isCoupon_X12 hown hK hW rfl rfl 49 (by decide) (hts (.fieldLink RX12 106 "PetrolBoardModel" "issued" "[I") (List.mem_of_getElem? (i := 2) rfl)) (fun _ h => h) rfl dX12_isCoupon_11 ?_
      refine lv_iload_n hx hb dX12_isCoupon_14 rfl (lv_at hl 1 rfl) ?_
      refine lv_bipush (v := 100) hx hb dX12_isCoupon_15 (by decide) ?_
      refine lv_idiv hx hb dX12_isCoupon_17 (by decide) ?_
      refine z_iald (i := 31) hx hb hK hW rfl (z_in72 c1 c2) dX12_isCoupon_18 ?_
      refine z_topi (v := 0) rfl ?_
      refine lv_iconst (v := 1) hx hb dX12_isCoupon_19 (by decide) ?_
      refine lv_isub hx hb dX12_isCoupon_20 ?_
      refine z_topi (v := (-1)) (by decide) ?_
      refine lv_iload_n hx hb dX12_isCoupon_21 rfl (lv_at hl 1 rfl) ?_
      refine lv_bipush (v := 100) hx hb dX12_isCoupon_22 (by decide) ?_
      refine lv_irem hx hb dX12_isCoupon_24 (by decide) ?_
      refine lv_icmp_le (tgt := 32) hx hb dX12_isCoupon_25 (by decide) (fun c3 => ?_) (fun c3 => absurd (z_m1r c1) c3)
      refine lv_iconst (v := 0) hx hb dX12_isCoupon_32 (by decide) ?_
      exact z_zret hx hb hr (by decide) hK hS (Nat.le_of_ble_eq_true rfl) (Nat.le_of_ble_eq_true rfl) hlocks dX12_isCoupon_33 (shM, ad, IM, JM, PM ad) hW ⟨rfl, rfl⟩
set_option maxHeartbeats 4000000 in
set_option maxRecDepth 100000 in
theorem ct_X0_ownerOf (l : Launch) (G : z_G) (ad : Nat → Nat) (a1 : Int32) : z_M l yX0_ownerOf wsX0_ownerOf { frames := 2, cells := 0, slots := 0, locals := 34 } [.ref (ad 26), .int a1] G (shX, ad, IX, JX, PX ad) (fun r u1 => u1 = (shX, ad, IX, JX, PX ad) ∧ r = (-1)) 0 0 := by
  intro sz
  refine z_headQ (cc := cX0_ownerOf) (maxL := 3) (ret := (some .int)) (by decide) rfl (Nat.le_of_ble_eq_true rfl) ?_
  intro p e s m below meth c ls hIn hK hsz hW hl
  obtain ⟨hx, hb, hr, hml, hown, hts, hlocks, hname⟩ := hIn
  subst hsz
  have hown : s.vm.findClass RX0 = some m.cls := hown
  have hA : ∀ q : Nat, s.heap.size ≤ q → z_A (shX, ad, IX, JX, PX ad) s.heap.size q := fun q h => Or.inr h
  generalize hAe : z_A (shX, ad, IX, JX, PX ad) s.heap.size = A at *
  have hS : va_S A s.heap s.heap [] := va_S.rf
  have hl : lv_has ls 3 [(0, .ref (ad 26)), (1, .int a1)] := hl
  refine lv_aload_n hx hb dX0_ownerOf_0 rfl (lv_at hl 0 rfl) ?_
  refine lv_iload_n hx hb dX0_ownerOf_1 rfl (lv_at hl 1 rfl) ?_
  refine z_ci hW hS hA (va_runV (As := [.int a1]) (rest := []) ⟨hx, hb, hml, hown, hts⟩ (ct_X0_has l G ad a1 _) (cwV 1 hts gX0_ownerOf_X0_has rfl rfl rfl (by decide +kernel) ⟨Nat.le_of_ble_eq_true rfl, Nat.le_of_ble_eq_true rfl⟩) (z_preV hK hW rfl rfl) rfl rfl hl.1 rfl (lv_room (Nat.le_of_ble_eq_true rfl)) dX0_ownerOf_2 ⟨Nat.le_of_ble_eq_true rfl, Nat.le_of_ble_eq_true rfl⟩) (fun r u1 H locs hp hW hS => ?_)
  obtain ⟨e9, rfl⟩ := hp
  rw [e9] at hW
  refine lv_if_ne (tgt := 10) hx hb dX0_ownerOf_5 (by decide) (fun c1 => absurd (by decide) c1) (fun c1 => ?_)
  refine lv_iconst (v := (-1)) hx hb dX0_ownerOf_8 (by decide) ?_
  exact z_iret hx hb hr hK hS (Nat.le_of_ble_eq_true rfl) (Nat.le_of_ble_eq_true rfl) hlocks dX0_ownerOf_9 (shX, ad, IX, JX, PX ad) hW ⟨rfl, rfl⟩
theorem zi_X11_owner_X11 : ∀ w ∈ wsX110, w ∈ wsX11_owner := fun w h => (List.mem_cons_of_mem _ (List.mem_append_left _ (List.mem_append_right _ h)))
set_option maxHeartbeats 4000000 in
set_option maxRecDepth 100000 in
theorem ct_X11_owner (l : Launch) (G : z_G) (ad : Nat → Nat) (a1 : Int32) : z_M l yX11_owner wsX11_owner { frames := 3, cells := 0, slots := 0, locals := 56 } [.ref (ad 0), .int a1] G (shX, ad, IX, JX, PX ad) (fun r u1 => r = -1) 0 0 := by
  intro sz
  refine z_headQ (cc := cX11_owner) (maxL := 2) (ret := (some .int)) (by decide) rfl (Nat.le_of_ble_eq_true rfl) ?_
  intro p e s m below meth c ls hIn hK hsz hW hl
  obtain ⟨hx, hb, hr, hml, hown, hts, hlocks, hname⟩ := hIn
  subst hsz
  have hown : s.vm.findClass RX11 = some m.cls := hown
  have hA : ∀ q : Nat, s.heap.size ≤ q → z_A (shX, ad, IX, JX, PX ad) s.heap.size q := fun q h => Or.inr h
  generalize hAe : z_A (shX, ad, IX, JX, PX ad) s.heap.size = A at *
  have hS : va_S A s.heap s.heap [] := va_S.rf
  have hl : lv_has ls 2 [(0, .ref (ad 0)), (1, .int a1)] := hl
  refine lv_aload_n hx hb dX11_owner_0 rfl (lv_at hl 0 rfl) ?_
  refine z_get (T := TX11) (N := 13) (ci := 11) (i := 0) (v := .ref (ad 26)) hx hb hts zi_X11_owner_X11 hown hK hW rfl rfl 5 (by decide) (hts (.fieldLink RX11 37 "PetrolBoard" "coupons" "LPetrolBoard$Coupons;") (List.mem_of_getElem? (i := 1) rfl)) (fun _ h => h) rfl dX11_owner_1 ?_
  refine lv_iload_n hx hb dX11_owner_4 rfl (lv_at hl 1 rfl) ?_
  refine z_ci hW hS hA (va_runV (As := [.int a1]) (rest := []) ⟨hx, hb, hml, hown, hts⟩ (ct_X0_ownerOf l G ad a1 _) (cwV 1 hts gX11_owner_X0_ownerOf rfl rfl rfl (by decide +kernel) ⟨Nat.le_of_ble_eq_true rfl, Nat.le_of_ble_eq_true rfl⟩) (z_preV hK hW rfl rfl) rfl rfl hl.1 rfl (lv_room (Nat.le_of_ble_eq_true rfl)) dX11_owner_5 ⟨Nat.le_of_ble_eq_true rfl, Nat.le_of_ble_eq_true rfl⟩) (fun r u1 H locs hp hW hS => ?_)
  obtain ⟨e9, rfl⟩ := hp
  rw [e9] at hW
  exact z_iret hx hb hr hK hS (Nat.le_of_ble_eq_true rfl) (Nat.le_of_ble_eq_true rfl) hlocks dX11_owner_8 (shX, ad, IX, JX, PX ad) hW rfl
theorem zi_X11_lend_X11 : ∀ w ∈ wsX110, w ∈ wsX11_lend := fun w h => (List.mem_cons_of_mem _ (List.mem_append_left _ (List.mem_append_left _ (List.mem_append_left _ (List.mem_append_left _ (List.mem_append_left _ (List.mem_append_right _ h)))))))
set_option maxHeartbeats 4000000 in
set_option maxRecDepth 100000 in
theorem ct_X11_lend (l : Launch) (G : z_G) (ad : Nat → Nat) (a1 : Int32) (a2 : Int32) : z_M l yX11_lend wsX11_lend { frames := 2, cells := 0, slots := 0, locals := 34 } [.ref (ad 0), .int a1, .int a2] G (shX, ad, IX, JX, PX ad) (fun r u1 => r = 0) 0 0 := by
  intro sz
  refine z_headQ (cc := cX11_lend) (maxL := 4) (ret := (some .boolean)) (by decide) rfl (Nat.le_of_ble_eq_true rfl) ?_
  intro p e s m below meth c ls hIn hK hsz hW hl
  obtain ⟨hx, hb, hr, hml, hown, hts, hlocks, hname⟩ := hIn
  subst hsz
  have hown : s.vm.findClass RX11 = some m.cls := hown
  have hA : ∀ q : Nat, s.heap.size ≤ q → z_A (shX, ad, IX, JX, PX ad) s.heap.size q := fun q h => Or.inr h
  generalize hAe : z_A (shX, ad, IX, JX, PX ad) s.heap.size = A at *
  have hS : va_S A s.heap s.heap [] := va_S.rf
  have hl : lv_has ls 4 [(0, .ref (ad 0)), (1, .int a1), (2, .int a2)] := hl
  refine lv_aload_n hx hb dX11_lend_0 rfl (lv_at hl 0 rfl) ?_
  refine z_get (T := TX11) (N := 13) (ci := 11) (i := 0) (v := .ref (ad 26)) hx hb hts zi_X11_lend_X11 hown hK hW rfl rfl 5 (by decide) (hts (.fieldLink RX11 37 "PetrolBoard" "coupons" "LPetrolBoard$Coupons;") (List.mem_of_getElem? (i := 1) rfl)) (fun _ h => h) rfl dX11_lend_1 ?_
  refine lv_iload_n hx hb dX11_lend_4 rfl (lv_at hl 1 rfl) ?_
  refine z_ci hW hS hA (va_runV (As := [.int a1]) (rest := []) ⟨hx, hb, hml, hown, hts⟩ (ct_X0_has l G ad a1 _) (cwV 1 hts gX11_lend_X0_has rfl rfl rfl (by decide +kernel) ⟨Nat.le_of_ble_eq_true rfl, Nat.le_of_ble_eq_true rfl⟩) (z_preV hK hW rfl rfl) rfl rfl hl.1 rfl (lv_room (Nat.le_of_ble_eq_true rfl)) dX11_lend_5 ⟨Nat.le_of_ble_eq_true rfl, Nat.le_of_ble_eq_true rfl⟩) (fun r u1 H locs hp hW hS => ?_)
  obtain ⟨e9, rfl⟩ := hp
  rw [e9] at hW
  refine lv_if_eq (tgt := 30) hx hb dX11_lend_8 (by decide) (fun c1 => ?_) (fun c1 => absurd (by decide) c1)
  refine lv_iconst (v := 0) hx hb dX11_lend_30 (by decide) ?_
  exact z_zret hx hb hr (by decide) hK hS (Nat.le_of_ble_eq_true rfl) (Nat.le_of_ble_eq_true rfl) hlocks dX11_lend_31 (shX, ad, IX, JX, PX ad) hW rfl
set_option maxHeartbeats 4000000 in
set_option maxRecDepth 100000 in
theorem ct_X12_owner (l : Launch) (G : z_G) (ad : Nat → Nat) (a1 : Int32) : z_M l yX12_owner wsX12_owner { frames := 2, cells := 0, slots := 0, locals := 33 } [.ref (ad 0), .int a1] G (shM, ad, IM, JM, PM ad) (fun r u1 => r = -1) 0 0 := by
  intro sz
  refine z_headQ (cc := cX12_owner) (maxL := 2) (ret := (some .int)) (by decide) rfl (Nat.le_of_ble_eq_true rfl) ?_
  intro p e s m below meth c ls hIn hK hsz hW hl
  obtain ⟨hx, hb, hr, hml, hown, hts, hlocks, hname⟩ := hIn
  subst hsz
  have hown : s.vm.findClass RX12 = some m.cls := hown
  have hA : ∀ q : Nat, s.heap.size ≤ q → z_A (shM, ad, IM, JM, PM ad) s.heap.size q := fun q h => Or.inr h
  generalize hAe : z_A (shM, ad, IM, JM, PM ad) s.heap.size = A at *
  have hS : va_S A s.heap s.heap [] := va_S.rf
  have hl : lv_has ls 2 [(0, .ref (ad 0)), (1, .int a1)] := hl
  refine lv_aload_n hx hb dX12_owner_0 rfl (lv_at hl 0 rfl) ?_
  refine lv_iload_n hx hb dX12_owner_1 rfl (lv_at hl 1 rfl) ?_
  refine z_ci hW hS hA (va_runV (As := [.int a1]) (rest := []) ⟨hx, hb, hml, hown, hts⟩ (ct_X12_isCoupon l G ad a1 _) (cwV 1 hts gX12_owner_X12_isCoupon rfl rfl rfl (by decide +kernel) ⟨Nat.le_of_ble_eq_true rfl, Nat.le_of_ble_eq_true rfl⟩) (z_preV hK hW rfl rfl) rfl rfl hl.1 rfl (lv_room (Nat.le_of_ble_eq_true rfl)) dX12_owner_2 ⟨Nat.le_of_ble_eq_true rfl, Nat.le_of_ble_eq_true rfl⟩) (fun r u1 H locs hp hW hS => ?_)
  obtain ⟨e9, rfl⟩ := hp
  rw [e9] at hW
  refine lv_if_eq (tgt := 16) hx hb dX12_owner_5 (by decide) (fun c1 => ?_) (fun c1 => absurd (by decide) c1)
  refine lv_iconst (v := (-1)) hx hb dX12_owner_16 (by decide) ?_
  exact z_iret hx hb hr hK hS (Nat.le_of_ble_eq_true rfl) (Nat.le_of_ble_eq_true rfl) hlocks dX12_owner_17 (shM, ad, IM, JM, PM ad) hW rfl
set_option maxHeartbeats 4000000 in
set_option maxRecDepth 100000 in
theorem ct_X12_lend (l : Launch) (G : z_G) (ad : Nat → Nat) (a1 : Int32) (a2 : Int32) : z_M l yX12_lend wsX12_lend { frames := 2, cells := 0, slots := 0, locals := 33 } [.ref (ad 0), .int a1, .int a2] G (shM, ad, IM, JM, PM ad) (fun r u1 => r = 0) 0 0 := by
  intro sz
  refine z_headQ (cc := cX12_lend) (maxL := 6) (ret := (some .boolean)) (by decide) rfl (Nat.le_of_ble_eq_true rfl) ?_
  intro p e s m below meth c ls hIn hK hsz hW hl
  obtain ⟨hx, hb, hr, hml, hown, hts, hlocks, hname⟩ := hIn
  subst hsz
  have hown : s.vm.findClass RX12 = some m.cls := hown
  have hA : ∀ q : Nat, s.heap.size ≤ q → z_A (shM, ad, IM, JM, PM ad) s.heap.size q := fun q h => Or.inr h
  generalize hAe : z_A (shM, ad, IM, JM, PM ad) s.heap.size = A at *
  have hS : va_S A s.heap s.heap [] := va_S.rf
  have hl : lv_has ls 6 [(0, .ref (ad 0)), (1, .int a1), (2, .int a2)] := hl
  refine lv_aload_n hx hb dX12_lend_0 rfl (lv_at hl 0 rfl) ?_
  refine lv_iload_n hx hb dX12_lend_1 rfl (lv_at hl 1 rfl) ?_
  refine z_ci hW hS hA (va_runV (As := [.int a1]) (rest := []) ⟨hx, hb, hml, hown, hts⟩ (ct_X12_isCoupon l G ad a1 _) (cwV 1 hts gX12_lend_X12_isCoupon rfl rfl rfl (by decide +kernel) ⟨Nat.le_of_ble_eq_true rfl, Nat.le_of_ble_eq_true rfl⟩) (z_preV hK hW rfl rfl) rfl rfl hl.1 rfl (lv_room (Nat.le_of_ble_eq_true rfl)) dX12_lend_2 ⟨Nat.le_of_ble_eq_true rfl, Nat.le_of_ble_eq_true rfl⟩) (fun r u1 H locs hp hW hS => ?_)
  obtain ⟨e9, rfl⟩ := hp
  rw [e9] at hW
  refine lv_if_eq (tgt := 43) hx hb dX12_lend_5 (by decide) (fun c1 => ?_) (fun c1 => absurd (by decide) c1)
  refine lv_iconst (v := 0) hx hb dX12_lend_43 (by decide) ?_
  exact z_zret hx hb hr (by decide) hK hS (Nat.le_of_ble_eq_true rfl) (Nat.le_of_ble_eq_true rfl) hlocks dX12_lend_44 (shM, ad, IM, JM, PM ad) hW rfl
theorem zi_X12_inForce_X12 : ∀ w ∈ wsX120, w ∈ wsX12_inForce := fun w h => (List.mem_cons_of_mem _ (List.mem_append_right _ h))
set_option maxHeartbeats 4000000 in
set_option maxRecDepth 100000 in
theorem ct_X12_inForce (l : Launch) (G : z_G) (ad : Nat → Nat) (a1 : Int32) (a2 : Int32) : z_M l yX12_inForce wsX12_inForce { frames := 1, cells := 0, slots := 0, locals := 12 } [.ref (ad 0), .int a1, .int a2] G (shM, ad, IM, JM, PM ad) (fun r u1 => u1 = (shM, ad, IM, JM, PM ad) ∧ r = (-1)) 0 0 := by
  intro sz
  refine z_headQ (cc := cX12_inForce) (maxL := 5) (ret := (some .int)) (by decide) rfl (Nat.le_of_ble_eq_true rfl) ?_
  intro p e s m below meth c ls hIn hK hsz hW hl
  obtain ⟨hx, hb, hr, hml, hown, hts, hlocks, hname⟩ := hIn
  subst hsz
  have hown : s.vm.findClass RX12 = some m.cls := hown
  have hA : ∀ q : Nat, s.heap.size ≤ q → z_A (shM, ad, IM, JM, PM ad) s.heap.size q := fun q h => Or.inr h
  generalize hAe : z_A (shM, ad, IM, JM, PM ad) s.heap.size = A at *
  have hS : va_S A s.heap s.heap [] := va_S.rf
  have hl : lv_has ls 5 [(0, .ref (ad 0)), (1, .int a1), (2, .int a2)] := hl
  refine lv_iconst (v := (-1)) hx hb dX12_inForce_0 (by decide) ?_
  refine lv_istore_n (lv' := [(3, .int (-1)), (0, .ref (ad 0)), (1, .int a1), (2, .int a2)]) hx hb dX12_inForce_1 rfl hl (by decide) rfl (fun ls hl => ?_)
  refine lv_iconst (v := 0) hx hb dX12_inForce_2 (by decide) ?_
  refine lv_istore (lv' := [(4, .int 0), (3, .int (-1)), (0, .ref (ad 0)), (1, .int a1), (2, .int a2)]) hx hb dX12_inForce_3 hl (by decide) rfl (fun ls hl => ?_)
  refine lv_iload hx hb dX12_inForce_5 (lv_at hl 0 rfl) ?_
  refine lv_aload_n hx hb dX12_inForce_7 rfl (lv_at hl 2 rfl) ?_
  refine z_get (T := TX12) (N := 96) (ci := 12) (i := 0) (v := .int 0) hx hb hts zi_X12_inForce_X12 hown hK hW rfl rfl 13 (by decide) (hts (.fieldLink RX12 408 "PetrolBoardModel" "texts" "I") (List.mem_of_getElem? (i := 1) rfl)) (fun _ h => h) rfl dX12_inForce_8 ?_
  refine lv_icmp_ge (tgt := 65) hx hb dX12_inForce_11 (by decide) (fun c1 => ?_) (fun c1 => absurd (by decide) c1)
  refine lv_iload_n hx hb dX12_inForce_65 rfl (lv_at hl 1 rfl) ?_
  exact z_iret hx hb hr hK hS (Nat.le_of_ble_eq_true rfl) (Nat.le_of_ble_eq_true rfl) hlocks dX12_inForce_66 (shM, ad, IM, JM, PM ad) hW ⟨rfl, rfl⟩
end
section
theorem dX12_init_0 : decode cX12_init 0 = .ok (.aload_n 0, 1) := by decide +kernel
theorem dX12_init_1 : decode cX12_init 1 = .ok (.invokespecial 1, 3) := by decide +kernel
theorem dX12_init_4 : decode cX12_init 4 = .ok (.aload_n 0, 1) := by decide +kernel
theorem dX12_init_5 : decode cX12_init 5 = .ok (.bipush 30, 2) := by decide +kernel
theorem dX12_init_7 : decode cX12_init 7 = .ok (.newarray .int, 2) := by decide +kernel
theorem dX12_init_9 : decode cX12_init 9 = .ok (.putfield 7, 3) := by decide +kernel
theorem dX12_init_12 : decode cX12_init 12 = .ok (.aload_n 0, 1) := by decide +kernel
theorem dX12_init_13 : decode cX12_init 13 = .ok (.bipush 30, 2) := by decide +kernel
theorem dX12_init_15 : decode cX12_init 15 = .ok (.newarray .int, 2) := by decide +kernel
theorem dX12_init_17 : decode cX12_init 17 = .ok (.putfield 13, 3) := by decide +kernel
theorem dX12_init_20 : decode cX12_init 20 = .ok (.aload_n 0, 1) := by decide +kernel
theorem dX12_init_21 : decode cX12_init 21 = .ok (.bipush 30, 2) := by decide +kernel
theorem dX12_init_23 : decode cX12_init 23 = .ok (.newarray .int, 2) := by decide +kernel
theorem dX12_init_25 : decode cX12_init 25 = .ok (.putfield 16, 3) := by decide +kernel
theorem dX12_init_28 : decode cX12_init 28 = .ok (.aload_n 0, 1) := by decide +kernel
theorem dX12_init_29 : decode cX12_init 29 = .ok (.bipush 30, 2) := by decide +kernel
theorem dX12_init_31 : decode cX12_init 31 = .ok (.newarray .int, 2) := by decide +kernel
theorem dX12_init_33 : decode cX12_init 33 = .ok (.putfield 19, 3) := by decide +kernel
theorem dX12_init_36 : decode cX12_init 36 = .ok (.aload_n 0, 1) := by decide +kernel
theorem dX12_init_37 : decode cX12_init 37 = .ok (.bipush 30, 2) := by decide +kernel
theorem dX12_init_39 : decode cX12_init 39 = .ok (.newarray .int, 2) := by decide +kernel
theorem dX12_init_41 : decode cX12_init 41 = .ok (.putfield 22, 3) := by decide +kernel
theorem dX12_init_44 : decode cX12_init 44 = .ok (.aload_n 0, 1) := by decide +kernel
theorem dX12_init_45 : decode cX12_init 45 = .ok (.sipush 200, 3) := by decide +kernel
theorem dX12_init_48 : decode cX12_init 48 = .ok (.newarray .int, 2) := by decide +kernel
theorem dX12_init_50 : decode cX12_init 50 = .ok (.putfield 25, 3) := by decide +kernel
theorem dX12_init_53 : decode cX12_init 53 = .ok (.aload_n 0, 1) := by decide +kernel
theorem dX12_init_54 : decode cX12_init 54 = .ok (.sipush 200, 3) := by decide +kernel
theorem dX12_init_57 : decode cX12_init 57 = .ok (.newarray .int, 2) := by decide +kernel
theorem dX12_init_59 : decode cX12_init 59 = .ok (.putfield 28, 3) := by decide +kernel
theorem dX12_init_62 : decode cX12_init 62 = .ok (.aload_n 0, 1) := by decide +kernel
theorem dX12_init_63 : decode cX12_init 63 = .ok (.sipush 200, 3) := by decide +kernel
theorem dX12_init_66 : decode cX12_init 66 = .ok (.newarray .int, 2) := by decide +kernel
theorem dX12_init_68 : decode cX12_init 68 = .ok (.putfield 31, 3) := by decide +kernel
theorem dX12_init_71 : decode cX12_init 71 = .ok (.aload_n 0, 1) := by decide +kernel
theorem dX12_init_72 : decode cX12_init 72 = .ok (.sipush 200, 3) := by decide +kernel
theorem dX12_init_75 : decode cX12_init 75 = .ok (.newarray .int, 2) := by decide +kernel
theorem dX12_init_77 : decode cX12_init 77 = .ok (.putfield 34, 3) := by decide +kernel
theorem dX12_init_80 : decode cX12_init 80 = .ok (.aload_n 0, 1) := by decide +kernel
theorem dX12_init_81 : decode cX12_init 81 = .ok (.sipush 200, 3) := by decide +kernel
theorem dX12_init_84 : decode cX12_init 84 = .ok (.newarray .int, 2) := by decide +kernel
theorem dX12_init_86 : decode cX12_init 86 = .ok (.putfield 37, 3) := by decide +kernel
theorem dX12_init_89 : decode cX12_init 89 = .ok (.aload_n 0, 1) := by decide +kernel
theorem dX12_init_90 : decode cX12_init 90 = .ok (.bipush 12, 2) := by decide +kernel
theorem dX12_init_92 : decode cX12_init 92 = .ok (.newarray .int, 2) := by decide +kernel
theorem dX12_init_94 : decode cX12_init 94 = .ok (.putfield 40, 3) := by decide +kernel
theorem dX12_init_97 : decode cX12_init 97 = .ok (.aload_n 0, 1) := by decide +kernel
theorem dX12_init_98 : decode cX12_init 98 = .ok (.bipush 12, 2) := by decide +kernel
theorem dX12_init_100 : decode cX12_init 100 = .ok (.newarray .int, 2) := by decide +kernel
theorem dX12_init_102 : decode cX12_init 102 = .ok (.putfield 43, 3) := by decide +kernel
theorem dX12_init_105 : decode cX12_init 105 = .ok (.aload_n 0, 1) := by decide +kernel
theorem dX12_init_106 : decode cX12_init 106 = .ok (.bipush 12, 2) := by decide +kernel
theorem dX12_init_108 : decode cX12_init 108 = .ok (.newarray .int, 2) := by decide +kernel
theorem dX12_init_110 : decode cX12_init 110 = .ok (.putfield 46, 3) := by decide +kernel
theorem dX12_init_113 : decode cX12_init 113 = .ok (.aload_n 0, 1) := by decide +kernel
theorem dX12_init_114 : decode cX12_init 114 = .ok (.bipush 12, 2) := by decide +kernel
theorem dX12_init_116 : decode cX12_init 116 = .ok (.newarray .int, 2) := by decide +kernel
theorem dX12_init_118 : decode cX12_init 118 = .ok (.putfield 49, 3) := by decide +kernel
theorem dX12_init_121 : decode cX12_init 121 = .ok (.aload_n 0, 1) := by decide +kernel
theorem dX12_init_122 : decode cX12_init 122 = .ok (.sipush 320, 3) := by decide +kernel
theorem dX12_init_125 : decode cX12_init 125 = .ok (.newarray .int, 2) := by decide +kernel
theorem dX12_init_127 : decode cX12_init 127 = .ok (.putfield 52, 3) := by decide +kernel
theorem dX12_init_130 : decode cX12_init 130 = .ok (.aload_n 0, 1) := by decide +kernel
theorem dX12_init_131 : decode cX12_init 131 = .ok (.sipush 320, 3) := by decide +kernel
theorem dX12_init_134 : decode cX12_init 134 = .ok (.newarray .int, 2) := by decide +kernel
theorem dX12_init_136 : decode cX12_init 136 = .ok (.putfield 55, 3) := by decide +kernel
theorem dX12_init_139 : decode cX12_init 139 = .ok (.aload_n 0, 1) := by decide +kernel
theorem dX12_init_140 : decode cX12_init 140 = .ok (.sipush 320, 3) := by decide +kernel
theorem dX12_init_143 : decode cX12_init 143 = .ok (.newarray .int, 2) := by decide +kernel
theorem dX12_init_145 : decode cX12_init 145 = .ok (.putfield 58, 3) := by decide +kernel
theorem dX12_init_148 : decode cX12_init 148 = .ok (.aload_n 0, 1) := by decide +kernel
theorem dX12_init_149 : decode cX12_init 149 = .ok (.sipush 320, 3) := by decide +kernel
theorem dX12_init_152 : decode cX12_init 152 = .ok (.newarray .int, 2) := by decide +kernel
theorem dX12_init_154 : decode cX12_init 154 = .ok (.putfield 61, 3) := by decide +kernel
theorem dX12_init_157 : decode cX12_init 157 = .ok (.aload_n 0, 1) := by decide +kernel
theorem dX12_init_158 : decode cX12_init 158 = .ok (.sipush 320, 3) := by decide +kernel
theorem dX12_init_161 : decode cX12_init 161 = .ok (.newarray .int, 2) := by decide +kernel
theorem dX12_init_163 : decode cX12_init 163 = .ok (.putfield 64, 3) := by decide +kernel
theorem dX12_init_166 : decode cX12_init 166 = .ok (.aload_n 0, 1) := by decide +kernel
theorem dX12_init_167 : decode cX12_init 167 = .ok (.sipush 320, 3) := by decide +kernel
theorem dX12_init_170 : decode cX12_init 170 = .ok (.newarray .int, 2) := by decide +kernel
theorem dX12_init_172 : decode cX12_init 172 = .ok (.putfield 67, 3) := by decide +kernel
theorem dX12_init_175 : decode cX12_init 175 = .ok (.aload_n 0, 1) := by decide +kernel
theorem dX12_init_176 : decode cX12_init 176 = .ok (.sipush 6200, 3) := by decide +kernel
theorem dX12_init_179 : decode cX12_init 179 = .ok (.newarray .int, 2) := by decide +kernel
theorem dX12_init_181 : decode cX12_init 181 = .ok (.putfield 70, 3) := by decide +kernel
theorem dX12_init_184 : decode cX12_init 184 = .ok (.aload_n 0, 1) := by decide +kernel
theorem dX12_init_185 : decode cX12_init 185 = .ok (.sipush 6200, 3) := by decide +kernel
theorem dX12_init_188 : decode cX12_init 188 = .ok (.newarray .int, 2) := by decide +kernel
theorem dX12_init_190 : decode cX12_init 190 = .ok (.putfield 73, 3) := by decide +kernel
theorem dX12_init_193 : decode cX12_init 193 = .ok (.aload_n 0, 1) := by decide +kernel
theorem dX12_init_194 : decode cX12_init 194 = .ok (.sipush 6200, 3) := by decide +kernel
theorem dX12_init_197 : decode cX12_init 197 = .ok (.newarray .int, 2) := by decide +kernel
theorem dX12_init_199 : decode cX12_init 199 = .ok (.putfield 76, 3) := by decide +kernel
theorem dX12_init_202 : decode cX12_init 202 = .ok (.aload_n 0, 1) := by decide +kernel
theorem dX12_init_203 : decode cX12_init 203 = .ok (.sipush 6200, 3) := by decide +kernel
theorem dX12_init_206 : decode cX12_init 206 = .ok (.newarray .long, 2) := by decide +kernel
theorem dX12_init_208 : decode cX12_init 208 = .ok (.putfield 79, 3) := by decide +kernel
theorem dX12_init_211 : decode cX12_init 211 = .ok (.aload_n 0, 1) := by decide +kernel
theorem dX12_init_212 : decode cX12_init 212 = .ok (.sipush 500, 3) := by decide +kernel
theorem dX12_init_215 : decode cX12_init 215 = .ok (.newarray .byte, 2) := by decide +kernel
theorem dX12_init_217 : decode cX12_init 217 = .ok (.putfield 83, 3) := by decide +kernel
theorem dX12_init_220 : decode cX12_init 220 = .ok (.aload_n 0, 1) := by decide +kernel
theorem dX12_init_221 : decode cX12_init 221 = .ok (.iconst (-1), 1) := by decide +kernel
theorem dX12_init_222 : decode cX12_init 222 = .ok (.putfield 87, 3) := by decide +kernel
theorem dX12_init_225 : decode cX12_init 225 = .ok (.aload_n 0, 1) := by decide +kernel
theorem dX12_init_226 : decode cX12_init 226 = .ok (.bipush 120, 2) := by decide +kernel
theorem dX12_init_228 : decode cX12_init 228 = .ok (.newarray .int, 2) := by decide +kernel
theorem dX12_init_230 : decode cX12_init 230 = .ok (.putfield 91, 3) := by decide +kernel
theorem dX12_init_233 : decode cX12_init 233 = .ok (.aload_n 0, 1) := by decide +kernel
theorem dX12_init_234 : decode cX12_init 234 = .ok (.bipush 120, 2) := by decide +kernel
theorem dX12_init_236 : decode cX12_init 236 = .ok (.newarray .int, 2) := by decide +kernel
theorem dX12_init_238 : decode cX12_init 238 = .ok (.putfield 94, 3) := by decide +kernel
theorem dX12_init_241 : decode cX12_init 241 = .ok (.aload_n 0, 1) := by decide +kernel
theorem dX12_init_242 : decode cX12_init 242 = .ok (.bipush 120, 2) := by decide +kernel
theorem dX12_init_244 : decode cX12_init 244 = .ok (.newarray .int, 2) := by decide +kernel
theorem dX12_init_246 : decode cX12_init 246 = .ok (.putfield 97, 3) := by decide +kernel
theorem dX12_init_249 : decode cX12_init 249 = .ok (.aload_n 0, 1) := by decide +kernel
theorem dX12_init_250 : decode cX12_init 250 = .ok (.bipush 120, 2) := by decide +kernel
theorem dX12_init_252 : decode cX12_init 252 = .ok (.newarray .int, 2) := by decide +kernel
theorem dX12_init_254 : decode cX12_init 254 = .ok (.putfield 100, 3) := by decide +kernel
theorem dX12_init_257 : decode cX12_init 257 = .ok (.aload_n 0, 1) := by decide +kernel
theorem dX12_init_258 : decode cX12_init 258 = .ok (.bipush 7, 2) := by decide +kernel
theorem dX12_init_260 : decode cX12_init 260 = .ok (.newarray .long, 2) := by decide +kernel
theorem dX12_init_262 : decode cX12_init 262 = .ok (.putfield 103, 3) := by decide +kernel
theorem dX12_init_265 : decode cX12_init 265 = .ok (.aload_n 0, 1) := by decide +kernel
theorem dX12_init_266 : decode cX12_init 266 = .ok (.sipush 720, 3) := by decide +kernel
theorem dX12_init_269 : decode cX12_init 269 = .ok (.newarray .int, 2) := by decide +kernel
theorem dX12_init_271 : decode cX12_init 271 = .ok (.putfield 106, 3) := by decide +kernel
theorem dX12_init_274 : decode cX12_init 274 = .ok (.aload_n 0, 1) := by decide +kernel
theorem dX12_init_275 : decode cX12_init 275 = .ok (.ldc 109, 2) := by decide +kernel
theorem dX12_init_277 : decode cX12_init 277 = .ok (.newarray .int, 2) := by decide +kernel
theorem dX12_init_279 : decode cX12_init 279 = .ok (.putfield 110, 3) := by decide +kernel
theorem dX12_init_282 : decode cX12_init 282 = .ok (.aload_n 0, 1) := by decide +kernel
theorem dX12_init_283 : decode cX12_init 283 = .ok (.ldc 113, 2) := by decide +kernel
theorem dX12_init_285 : decode cX12_init 285 = .ok (.newarray .boolean, 2) := by decide +kernel
theorem dX12_init_287 : decode cX12_init 287 = .ok (.putfield 114, 3) := by decide +kernel
theorem dX12_init_290 : decode cX12_init 290 = .ok (.aload_n 0, 1) := by decide +kernel
theorem dX12_init_291 : decode cX12_init 291 = .ok (.sipush 300, 3) := by decide +kernel
theorem dX12_init_294 : decode cX12_init 294 = .ok (.newarray .int, 2) := by decide +kernel
theorem dX12_init_296 : decode cX12_init 296 = .ok (.putfield 118, 3) := by decide +kernel
theorem dX12_init_299 : decode cX12_init 299 = .ok (.aload_n 0, 1) := by decide +kernel
theorem dX12_init_300 : decode cX12_init 300 = .ok (.sipush 300, 3) := by decide +kernel
theorem dX12_init_303 : decode cX12_init 303 = .ok (.newarray .int, 2) := by decide +kernel
theorem dX12_init_305 : decode cX12_init 305 = .ok (.putfield 121, 3) := by decide +kernel
theorem dX12_init_308 : decode cX12_init 308 = .ok (.aload_n 0, 1) := by decide +kernel
theorem dX12_init_309 : decode cX12_init 309 = .ok (.sipush 300, 3) := by decide +kernel
theorem dX12_init_312 : decode cX12_init 312 = .ok (.newarray .int, 2) := by decide +kernel
theorem dX12_init_314 : decode cX12_init 314 = .ok (.putfield 124, 3) := by decide +kernel
theorem dX12_init_317 : decode cX12_init 317 = .ok (.aload_n 0, 1) := by decide +kernel
theorem dX12_init_318 : decode cX12_init 318 = .ok (.sipush 300, 3) := by decide +kernel
theorem dX12_init_321 : decode cX12_init 321 = .ok (.newarray .int, 2) := by decide +kernel
theorem dX12_init_323 : decode cX12_init 323 = .ok (.putfield 127, 3) := by decide +kernel
theorem dX12_init_326 : decode cX12_init 326 = .ok (.aload_n 0, 1) := by decide +kernel
theorem dX12_init_327 : decode cX12_init 327 = .ok (.sipush 300, 3) := by decide +kernel
theorem dX12_init_330 : decode cX12_init 330 = .ok (.newarray .int, 2) := by decide +kernel
theorem dX12_init_332 : decode cX12_init 332 = .ok (.putfield 130, 3) := by decide +kernel
theorem dX12_init_335 : decode cX12_init 335 = .ok (.aload_n 0, 1) := by decide +kernel
theorem dX12_init_336 : decode cX12_init 336 = .ok (.sipush 300, 3) := by decide +kernel
theorem dX12_init_339 : decode cX12_init 339 = .ok (.newarray .int, 2) := by decide +kernel
theorem dX12_init_341 : decode cX12_init 341 = .ok (.putfield 133, 3) := by decide +kernel
theorem dX12_init_344 : decode cX12_init 344 = .ok (.aload_n 0, 1) := by decide +kernel
theorem dX12_init_345 : decode cX12_init 345 = .ok (.sipush 300, 3) := by decide +kernel
theorem dX12_init_348 : decode cX12_init 348 = .ok (.newarray .int, 2) := by decide +kernel
theorem dX12_init_350 : decode cX12_init 350 = .ok (.putfield 136, 3) := by decide +kernel
theorem dX12_init_353 : decode cX12_init 353 = .ok (.aload_n 0, 1) := by decide +kernel
theorem dX12_init_354 : decode cX12_init 354 = .ok (.sipush 300, 3) := by decide +kernel
theorem dX12_init_357 : decode cX12_init 357 = .ok (.newarray .int, 2) := by decide +kernel
theorem dX12_init_359 : decode cX12_init 359 = .ok (.putfield 139, 3) := by decide +kernel
theorem dX12_init_362 : decode cX12_init 362 = .ok (.aload_n 0, 1) := by decide +kernel
theorem dX12_init_363 : decode cX12_init 363 = .ok (.sipush 300, 3) := by decide +kernel
theorem dX12_init_366 : decode cX12_init 366 = .ok (.newarray .boolean, 2) := by decide +kernel
theorem dX12_init_368 : decode cX12_init 368 = .ok (.putfield 142, 3) := by decide +kernel
theorem dX12_init_371 : decode cX12_init 371 = .ok (.aload_n 0, 1) := by decide +kernel
theorem dX12_init_372 : decode cX12_init 372 = .ok (.bipush 10, 2) := by decide +kernel
theorem dX12_init_374 : decode cX12_init 374 = .ok (.newarray .int, 2) := by decide +kernel
theorem dX12_init_376 : decode cX12_init 376 = .ok (.putfield 145, 3) := by decide +kernel
theorem dX12_init_379 : decode cX12_init 379 = .ok (.aload_n 0, 1) := by decide +kernel
theorem dX12_init_380 : decode cX12_init 380 = .ok (.bipush 10, 2) := by decide +kernel
theorem dX12_init_382 : decode cX12_init 382 = .ok (.newarray .int, 2) := by decide +kernel
theorem dX12_init_384 : decode cX12_init 384 = .ok (.putfield 148, 3) := by decide +kernel
theorem dX12_init_387 : decode cX12_init 387 = .ok (.aload_n 0, 1) := by decide +kernel
theorem dX12_init_388 : decode cX12_init 388 = .ok (.sipush 300, 3) := by decide +kernel
theorem dX12_init_391 : decode cX12_init 391 = .ok (.newarray .int, 2) := by decide +kernel
theorem dX12_init_393 : decode cX12_init 393 = .ok (.putfield 151, 3) := by decide +kernel
theorem dX12_init_396 : decode cX12_init 396 = .ok (.aload_n 0, 1) := by decide +kernel
theorem dX12_init_397 : decode cX12_init 397 = .ok (.sipush 300, 3) := by decide +kernel
theorem dX12_init_400 : decode cX12_init 400 = .ok (.newarray .int, 2) := by decide +kernel
theorem dX12_init_402 : decode cX12_init 402 = .ok (.putfield 154, 3) := by decide +kernel
theorem dX12_init_405 : decode cX12_init 405 = .ok (.aload_n 0, 1) := by decide +kernel
theorem dX12_init_406 : decode cX12_init 406 = .ok (.bipush 10, 2) := by decide +kernel
theorem dX12_init_408 : decode cX12_init 408 = .ok (.newarray .int, 2) := by decide +kernel
theorem dX12_init_410 : decode cX12_init 410 = .ok (.putfield 157, 3) := by decide +kernel
theorem dX12_init_413 : decode cX12_init 413 = .ok (.aload_n 0, 1) := by decide +kernel
theorem dX12_init_414 : decode cX12_init 414 = .ok (.sipush 300, 3) := by decide +kernel
theorem dX12_init_417 : decode cX12_init 417 = .ok (.newarray .int, 2) := by decide +kernel
theorem dX12_init_419 : decode cX12_init 419 = .ok (.putfield 160, 3) := by decide +kernel
theorem dX12_init_422 : decode cX12_init 422 = .ok (.aload_n 0, 1) := by decide +kernel
theorem dX12_init_423 : decode cX12_init 423 = .ok (.sipush 300, 3) := by decide +kernel
theorem dX12_init_426 : decode cX12_init 426 = .ok (.newarray .int, 2) := by decide +kernel
theorem dX12_init_428 : decode cX12_init 428 = .ok (.putfield 163, 3) := by decide +kernel
theorem dX12_init_431 : decode cX12_init 431 = .ok (.aload_n 0, 1) := by decide +kernel
theorem dX12_init_432 : decode cX12_init 432 = .ok (.sipush 300, 3) := by decide +kernel
theorem dX12_init_435 : decode cX12_init 435 = .ok (.newarray .int, 2) := by decide +kernel
theorem dX12_init_437 : decode cX12_init 437 = .ok (.putfield 166, 3) := by decide +kernel
theorem dX12_init_440 : decode cX12_init 440 = .ok (.aload_n 0, 1) := by decide +kernel
theorem dX12_init_441 : decode cX12_init 441 = .ok (.bipush 30, 2) := by decide +kernel
theorem dX12_init_443 : decode cX12_init 443 = .ok (.newarray .int, 2) := by decide +kernel
theorem dX12_init_445 : decode cX12_init 445 = .ok (.putfield 169, 3) := by decide +kernel
theorem dX12_init_448 : decode cX12_init 448 = .ok (.aload_n 0, 1) := by decide +kernel
theorem dX12_init_449 : decode cX12_init 449 = .ok (.iconst 4, 1) := by decide +kernel
theorem dX12_init_450 : decode cX12_init 450 = .ok (.newarray .int, 2) := by decide +kernel
theorem dX12_init_452 : decode cX12_init 452 = .ok (.putfield 172, 3) := by decide +kernel
theorem dX12_init_455 : decode cX12_init 455 = .ok (.aload_n 0, 1) := by decide +kernel
theorem dX12_init_456 : decode cX12_init 456 = .ok (.bipush 10, 2) := by decide +kernel
theorem dX12_init_458 : decode cX12_init 458 = .ok (.newarray .int, 2) := by decide +kernel
theorem dX12_init_460 : decode cX12_init 460 = .ok (.putfield 175, 3) := by decide +kernel
theorem dX12_init_463 : decode cX12_init 463 = .ok (.aload_n 0, 1) := by decide +kernel
theorem dX12_init_464 : decode cX12_init 464 = .ok (.bipush 40, 2) := by decide +kernel
theorem dX12_init_466 : decode cX12_init 466 = .ok (.newarray .int, 2) := by decide +kernel
theorem dX12_init_468 : decode cX12_init 468 = .ok (.putfield 178, 3) := by decide +kernel
theorem dX12_init_471 : decode cX12_init 471 = .ok (.aload_n 0, 1) := by decide +kernel
theorem dX12_init_472 : decode cX12_init 472 = .ok (.sipush 256, 3) := by decide +kernel
theorem dX12_init_475 : decode cX12_init 475 = .ok (.newarray .int, 2) := by decide +kernel
theorem dX12_init_477 : decode cX12_init 477 = .ok (.putfield 181, 3) := by decide +kernel
theorem dX12_init_480 : decode cX12_init 480 = .ok (.aload_n 0, 1) := by decide +kernel
theorem dX12_init_481 : decode cX12_init 481 = .ok (.sipush 256, 3) := by decide +kernel
theorem dX12_init_484 : decode cX12_init 484 = .ok (.newarray .int, 2) := by decide +kernel
theorem dX12_init_486 : decode cX12_init 486 = .ok (.putfield 184, 3) := by decide +kernel
theorem dX12_init_489 : decode cX12_init 489 = .ok (.aload_n 0, 1) := by decide +kernel
theorem dX12_init_490 : decode cX12_init 490 = .ok (.bipush 16, 2) := by decide +kernel
theorem dX12_init_492 : decode cX12_init 492 = .ok (.newarray .int, 2) := by decide +kernel
theorem dX12_init_494 : decode cX12_init 494 = .ok (.putfield 187, 3) := by decide +kernel
theorem dX12_init_497 : decode cX12_init 497 = .ok (.aload_n 0, 1) := by decide +kernel
theorem dX12_init_498 : decode cX12_init 498 = .ok (.bipush 16, 2) := by decide +kernel
theorem dX12_init_500 : decode cX12_init 500 = .ok (.newarray .int, 2) := by decide +kernel
theorem dX12_init_502 : decode cX12_init 502 = .ok (.putfield 190, 3) := by decide +kernel
theorem dX12_init_505 : decode cX12_init 505 = .ok (.aload_n 0, 1) := by decide +kernel
theorem dX12_init_506 : decode cX12_init 506 = .ok (.bipush 60, 2) := by decide +kernel
theorem dX12_init_508 : decode cX12_init 508 = .ok (.newarray .int, 2) := by decide +kernel
theorem dX12_init_510 : decode cX12_init 510 = .ok (.putfield 193, 3) := by decide +kernel
theorem dX12_init_513 : decode cX12_init 513 = .ok (.aload_n 0, 1) := by decide +kernel
theorem dX12_init_514 : decode cX12_init 514 = .ok (.bipush 60, 2) := by decide +kernel
theorem dX12_init_516 : decode cX12_init 516 = .ok (.newarray .int, 2) := by decide +kernel
theorem dX12_init_518 : decode cX12_init 518 = .ok (.putfield 196, 3) := by decide +kernel
theorem dX12_init_521 : decode cX12_init 521 = .ok (.aload_n 0, 1) := by decide +kernel
theorem dX12_init_522 : decode cX12_init 522 = .ok (.bipush 60, 2) := by decide +kernel
theorem dX12_init_524 : decode cX12_init 524 = .ok (.newarray .int, 2) := by decide +kernel
theorem dX12_init_526 : decode cX12_init 526 = .ok (.putfield 199, 3) := by decide +kernel
theorem dX12_init_529 : decode cX12_init 529 = .ok (.aload_n 0, 1) := by decide +kernel
theorem dX12_init_530 : decode cX12_init 530 = .ok (.bipush 60, 2) := by decide +kernel
theorem dX12_init_532 : decode cX12_init 532 = .ok (.newarray .int, 2) := by decide +kernel
theorem dX12_init_534 : decode cX12_init 534 = .ok (.putfield 202, 3) := by decide +kernel
theorem dX12_init_537 : decode cX12_init 537 = .ok (.aload_n 0, 1) := by decide +kernel
theorem dX12_init_538 : decode cX12_init 538 = .ok (.bipush 60, 2) := by decide +kernel
theorem dX12_init_540 : decode cX12_init 540 = .ok (.newarray .int, 2) := by decide +kernel
theorem dX12_init_542 : decode cX12_init 542 = .ok (.putfield 205, 3) := by decide +kernel
theorem dX12_init_545 : decode cX12_init 545 = .ok (.aload_n 0, 1) := by decide +kernel
theorem dX12_init_546 : decode cX12_init 546 = .ok (.bipush 60, 2) := by decide +kernel
theorem dX12_init_548 : decode cX12_init 548 = .ok (.newarray .int, 2) := by decide +kernel
theorem dX12_init_550 : decode cX12_init 550 = .ok (.putfield 208, 3) := by decide +kernel
theorem dX12_init_553 : decode cX12_init 553 = .ok (.aload_n 0, 1) := by decide +kernel
theorem dX12_init_554 : decode cX12_init 554 = .ok (.bipush 60, 2) := by decide +kernel
theorem dX12_init_556 : decode cX12_init 556 = .ok (.newarray .int, 2) := by decide +kernel
theorem dX12_init_558 : decode cX12_init 558 = .ok (.putfield 211, 3) := by decide +kernel
theorem dX12_init_561 : decode cX12_init 561 = .ok (.aload_n 0, 1) := by decide +kernel
theorem dX12_init_562 : decode cX12_init 562 = .ok (.bipush 60, 2) := by decide +kernel
theorem dX12_init_564 : decode cX12_init 564 = .ok (.newarray .int, 2) := by decide +kernel
theorem dX12_init_566 : decode cX12_init 566 = .ok (.putfield 214, 3) := by decide +kernel
theorem dX12_init_569 : decode cX12_init 569 = .ok (.aload_n 0, 1) := by decide +kernel
theorem dX12_init_570 : decode cX12_init 570 = .ok (.bipush 60, 2) := by decide +kernel
theorem dX12_init_572 : decode cX12_init 572 = .ok (.newarray .int, 2) := by decide +kernel
theorem dX12_init_574 : decode cX12_init 574 = .ok (.putfield 217, 3) := by decide +kernel
theorem dX12_init_577 : decode cX12_init 577 = .ok (.aload_n 0, 1) := by decide +kernel
theorem dX12_init_578 : decode cX12_init 578 = .ok (.bipush 12, 2) := by decide +kernel
theorem dX12_init_580 : decode cX12_init 580 = .ok (.newarray .int, 2) := by decide +kernel
theorem dX12_init_582 : decode cX12_init 582 = .ok (.putfield 220, 3) := by decide +kernel
theorem dX12_init_585 : decode cX12_init 585 = .ok (.aload_n 0, 1) := by decide +kernel
theorem dX12_init_586 : decode cX12_init 586 = .ok (.bipush 30, 2) := by decide +kernel
theorem dX12_init_588 : decode cX12_init 588 = .ok (.newarray .int, 2) := by decide +kernel
theorem dX12_init_590 : decode cX12_init 590 = .ok (.putfield 223, 3) := by decide +kernel
theorem dX12_init_593 : decode cX12_init 593 = .ok (.aload_n 0, 1) := by decide +kernel
theorem dX12_init_594 : decode cX12_init 594 = .ok (.bipush 30, 2) := by decide +kernel
theorem dX12_init_596 : decode cX12_init 596 = .ok (.newarray .boolean, 2) := by decide +kernel
theorem dX12_init_598 : decode cX12_init 598 = .ok (.putfield 226, 3) := by decide +kernel
theorem dX12_init_601 : decode cX12_init 601 = .ok (.return_, 1) := by decide +kernel
/-- no long is told yet -/
def z_J0 : z_J := fun _ _ => 0
def shM0 : Nat → Option z_S := z_sh (fun _ => none) 0 (.inr 12)
def PM0 (ad : Nat → Nat) : z_P := fun _ _ => none
def IM0 : z_I := fun _ _ => 0
def shSM1 : Nat → Option z_S := z_sh shM0 1 (.inl (.int, 30))
theorem hs_shSM1_0 : shSM1 0 = some (.inr 12) := rfl
def PSM2 (ad : Nat → Nat) : z_P := z_up (PM0 ad) 0 3 (some (ad 1))
def shSM3 : Nat → Option z_S := z_sh shSM1 2 (.inl (.int, 30))
theorem hs_shSM3_0 : shSM3 0 = some (.inr 12) := hs_shSM1_0
def PSM4 (ad : Nat → Nat) : z_P := z_up (PSM2 ad) 0 4 (some (ad 2))
def shSM5 : Nat → Option z_S := z_sh shSM3 3 (.inl (.int, 30))
theorem hs_shSM5_0 : shSM5 0 = some (.inr 12) := hs_shSM3_0
def PSM6 (ad : Nat → Nat) : z_P := z_up (PSM4 ad) 0 5 (some (ad 3))
def shSM7 : Nat → Option z_S := z_sh shSM5 4 (.inl (.int, 30))
theorem hs_shSM7_0 : shSM7 0 = some (.inr 12) := hs_shSM5_0
def PSM8 (ad : Nat → Nat) : z_P := z_up (PSM6 ad) 0 6 (some (ad 4))
def shSM9 : Nat → Option z_S := z_sh shSM7 5 (.inl (.int, 30))
theorem hs_shSM9_0 : shSM9 0 = some (.inr 12) := hs_shSM7_0
def PSM10 (ad : Nat → Nat) : z_P := z_up (PSM8 ad) 0 7 (some (ad 5))
def shSM11 : Nat → Option z_S := z_sh shSM9 6 (.inl (.int, 200))
theorem hs_shSM11_0 : shSM11 0 = some (.inr 12) := hs_shSM9_0
def PSM12 (ad : Nat → Nat) : z_P := z_up (PSM10 ad) 0 8 (some (ad 6))
def shSM13 : Nat → Option z_S := z_sh shSM11 7 (.inl (.int, 200))
theorem hs_shSM13_0 : shSM13 0 = some (.inr 12) := hs_shSM11_0
def PSM14 (ad : Nat → Nat) : z_P := z_up (PSM12 ad) 0 9 (some (ad 7))
def shSM15 : Nat → Option z_S := z_sh shSM13 8 (.inl (.int, 200))
theorem hs_shSM15_0 : shSM15 0 = some (.inr 12) := hs_shSM13_0
def PSM16 (ad : Nat → Nat) : z_P := z_up (PSM14 ad) 0 10 (some (ad 8))
def shSM17 : Nat → Option z_S := z_sh shSM15 9 (.inl (.int, 200))
theorem hs_shSM17_0 : shSM17 0 = some (.inr 12) := hs_shSM15_0
def PSM18 (ad : Nat → Nat) : z_P := z_up (PSM16 ad) 0 11 (some (ad 9))
def shSM19 : Nat → Option z_S := z_sh shSM17 10 (.inl (.int, 200))
theorem hs_shSM19_0 : shSM19 0 = some (.inr 12) := hs_shSM17_0
def PSM20 (ad : Nat → Nat) : z_P := z_up (PSM18 ad) 0 12 (some (ad 10))
def shSM21 : Nat → Option z_S := z_sh shSM19 11 (.inl (.int, 12))
theorem hs_shSM21_0 : shSM21 0 = some (.inr 12) := hs_shSM19_0
def PSM22 (ad : Nat → Nat) : z_P := z_up (PSM20 ad) 0 16 (some (ad 11))
def shSM23 : Nat → Option z_S := z_sh shSM21 12 (.inl (.int, 12))
theorem hs_shSM23_0 : shSM23 0 = some (.inr 12) := hs_shSM21_0
def PSM24 (ad : Nat → Nat) : z_P := z_up (PSM22 ad) 0 17 (some (ad 12))
def shSM25 : Nat → Option z_S := z_sh shSM23 13 (.inl (.int, 12))
theorem hs_shSM25_0 : shSM25 0 = some (.inr 12) := hs_shSM23_0
def PSM26 (ad : Nat → Nat) : z_P := z_up (PSM24 ad) 0 18 (some (ad 13))
def shSM27 : Nat → Option z_S := z_sh shSM25 14 (.inl (.int, 12))
theorem hs_shSM27_0 : shSM27 0 = some (.inr 12) := hs_shSM25_0
def PSM28 (ad : Nat → Nat) : z_P := z_up (PSM26 ad) 0 19 (some (ad 14))
def shSM29 : Nat → Option z_S := z_sh shSM27 15 (.inl (.int, 320))
theorem hs_shSM29_0 : shSM29 0 = some (.inr 12) := hs_shSM27_0
def PSM30 (ad : Nat → Nat) : z_P := z_up (PSM28 ad) 0 20 (some (ad 15))
def shSM31 : Nat → Option z_S := z_sh shSM29 16 (.inl (.int, 320))
theorem hs_shSM31_0 : shSM31 0 = some (.inr 12) := hs_shSM29_0
def PSM32 (ad : Nat → Nat) : z_P := z_up (PSM30 ad) 0 21 (some (ad 16))
def shSM33 : Nat → Option z_S := z_sh shSM31 17 (.inl (.int, 320))
theorem hs_shSM33_0 : shSM33 0 = some (.inr 12) := hs_shSM31_0
def PSM34 (ad : Nat → Nat) : z_P := z_up (PSM32 ad) 0 22 (some (ad 17))
def shSM35 : Nat → Option z_S := z_sh shSM33 18 (.inl (.int, 320))
theorem hs_shSM35_0 : shSM35 0 = some (.inr 12) := hs_shSM33_0
def PSM36 (ad : Nat → Nat) : z_P := z_up (PSM34 ad) 0 23 (some (ad 18))
def shSM37 : Nat → Option z_S := z_sh shSM35 19 (.inl (.int, 320))
theorem hs_shSM37_0 : shSM37 0 = some (.inr 12) := hs_shSM35_0
def PSM38 (ad : Nat → Nat) : z_P := z_up (PSM36 ad) 0 24 (some (ad 19))
def shSM39 : Nat → Option z_S := z_sh shSM37 20 (.inl (.int, 320))
theorem hs_shSM39_0 : shSM39 0 = some (.inr 12) := hs_shSM37_0
def PSM40 (ad : Nat → Nat) : z_P := z_up (PSM38 ad) 0 25 (some (ad 20))
def shSM41 : Nat → Option z_S := z_sh shSM39 21 (.inl (.int, 6200))
theorem hs_shSM41_0 : shSM41 0 = some (.inr 12) := hs_shSM39_0
def PSM42 (ad : Nat → Nat) : z_P := z_up (PSM40 ad) 0 26 (some (ad 21))
def shSM43 : Nat → Option z_S := z_sh shSM41 22 (.inl (.int, 6200))
theorem hs_shSM43_0 : shSM43 0 = some (.inr 12) := hs_shSM41_0
def PSM44 (ad : Nat → Nat) : z_P := z_up (PSM42 ad) 0 27 (some (ad 22))
def shSM45 : Nat → Option z_S := z_sh shSM43 23 (.inl (.int, 6200))
theorem hs_shSM45_0 : shSM45 0 = some (.inr 12) := hs_shSM43_0
def PSM46 (ad : Nat → Nat) : z_P := z_up (PSM44 ad) 0 28 (some (ad 23))
def shSM47 : Nat → Option z_S := z_sh shSM45 24 (.inl (.long, 6200))
theorem hs_shSM47_0 : shSM47 0 = some (.inr 12) := hs_shSM45_0
def PSM48 (ad : Nat → Nat) : z_P := z_up (PSM46 ad) 0 29 (some (ad 24))
def shSM49 : Nat → Option z_S := z_sh shSM47 25 (.inl (.byte, 500))
theorem hs_shSM49_0 : shSM49 0 = some (.inr 12) := hs_shSM47_0
def PSM50 (ad : Nat → Nat) : z_P := z_up (PSM48 ad) 0 30 (some (ad 25))
def ISM51 : z_I := z_up IM0 0 32 (-1)
def shSM52 : Nat → Option z_S := z_sh shSM49 26 (.inl (.int, 120))
theorem hs_shSM52_0 : shSM52 0 = some (.inr 12) := hs_shSM49_0
def PSM53 (ad : Nat → Nat) : z_P := z_up (PSM50 ad) 0 43 (some (ad 26))
def shSM54 : Nat → Option z_S := z_sh shSM52 27 (.inl (.int, 120))
theorem hs_shSM54_0 : shSM54 0 = some (.inr 12) := hs_shSM52_0
def PSM55 (ad : Nat → Nat) : z_P := z_up (PSM53 ad) 0 44 (some (ad 27))
def shSM56 : Nat → Option z_S := z_sh shSM54 28 (.inl (.int, 120))
theorem hs_shSM56_0 : shSM56 0 = some (.inr 12) := hs_shSM54_0
def PSM57 (ad : Nat → Nat) : z_P := z_up (PSM55 ad) 0 45 (some (ad 28))
def shSM58 : Nat → Option z_S := z_sh shSM56 29 (.inl (.int, 120))
theorem hs_shSM58_0 : shSM58 0 = some (.inr 12) := hs_shSM56_0
def PSM59 (ad : Nat → Nat) : z_P := z_up (PSM57 ad) 0 46 (some (ad 29))
def shSM60 : Nat → Option z_S := z_sh shSM58 30 (.inl (.long, 7))
theorem hs_shSM60_0 : shSM60 0 = some (.inr 12) := hs_shSM58_0
def PSM61 (ad : Nat → Nat) : z_P := z_up (PSM59 ad) 0 48 (some (ad 30))
def shSM62 : Nat → Option z_S := z_sh shSM60 31 (.inl (.int, 720))
theorem hs_shSM62_0 : shSM62 0 = some (.inr 12) := hs_shSM60_0
def PSM63 (ad : Nat → Nat) : z_P := z_up (PSM61 ad) 0 49 (some (ad 31))
def shSM64 : Nat → Option z_S := z_sh shSM62 32 (.inl (.int, 72000))
theorem hs_shSM64_0 : shSM64 0 = some (.inr 12) := hs_shSM62_0
def PSM65 (ad : Nat → Nat) : z_P := z_up (PSM63 ad) 0 52 (some (ad 32))
def shSM66 : Nat → Option z_S := z_sh shSM64 33 (.inl (.boolean, 100000))
theorem hs_shSM66_0 : shSM66 0 = some (.inr 12) := hs_shSM64_0
def PSM67 (ad : Nat → Nat) : z_P := z_up (PSM65 ad) 0 53 (some (ad 33))
def shSM68 : Nat → Option z_S := z_sh shSM66 34 (.inl (.int, 300))
theorem hs_shSM68_0 : shSM68 0 = some (.inr 12) := hs_shSM66_0
def PSM69 (ad : Nat → Nat) : z_P := z_up (PSM67 ad) 0 57 (some (ad 34))
def shSM70 : Nat → Option z_S := z_sh shSM68 35 (.inl (.int, 300))
theorem hs_shSM70_0 : shSM70 0 = some (.inr 12) := hs_shSM68_0
def PSM71 (ad : Nat → Nat) : z_P := z_up (PSM69 ad) 0 58 (some (ad 35))
def shSM72 : Nat → Option z_S := z_sh shSM70 36 (.inl (.int, 300))
theorem hs_shSM72_0 : shSM72 0 = some (.inr 12) := hs_shSM70_0
def PSM73 (ad : Nat → Nat) : z_P := z_up (PSM71 ad) 0 59 (some (ad 36))
def shSM74 : Nat → Option z_S := z_sh shSM72 37 (.inl (.int, 300))
theorem hs_shSM74_0 : shSM74 0 = some (.inr 12) := hs_shSM72_0
def PSM75 (ad : Nat → Nat) : z_P := z_up (PSM73 ad) 0 60 (some (ad 37))
def shSM76 : Nat → Option z_S := z_sh shSM74 38 (.inl (.int, 300))
theorem hs_shSM76_0 : shSM76 0 = some (.inr 12) := hs_shSM74_0
def PSM77 (ad : Nat → Nat) : z_P := z_up (PSM75 ad) 0 61 (some (ad 38))
def shSM78 : Nat → Option z_S := z_sh shSM76 39 (.inl (.int, 300))
theorem hs_shSM78_0 : shSM78 0 = some (.inr 12) := hs_shSM76_0
def PSM79 (ad : Nat → Nat) : z_P := z_up (PSM77 ad) 0 62 (some (ad 39))
def shSM80 : Nat → Option z_S := z_sh shSM78 40 (.inl (.int, 300))
theorem hs_shSM80_0 : shSM80 0 = some (.inr 12) := hs_shSM78_0
def PSM81 (ad : Nat → Nat) : z_P := z_up (PSM79 ad) 0 63 (some (ad 40))
def shSM82 : Nat → Option z_S := z_sh shSM80 41 (.inl (.int, 300))
theorem hs_shSM82_0 : shSM82 0 = some (.inr 12) := hs_shSM80_0
def PSM83 (ad : Nat → Nat) : z_P := z_up (PSM81 ad) 0 64 (some (ad 41))
def shSM84 : Nat → Option z_S := z_sh shSM82 42 (.inl (.boolean, 300))
theorem hs_shSM84_0 : shSM84 0 = some (.inr 12) := hs_shSM82_0
def PSM85 (ad : Nat → Nat) : z_P := z_up (PSM83 ad) 0 65 (some (ad 42))
def shSM86 : Nat → Option z_S := z_sh shSM84 43 (.inl (.int, 10))
theorem hs_shSM86_0 : shSM86 0 = some (.inr 12) := hs_shSM84_0
def PSM87 (ad : Nat → Nat) : z_P := z_up (PSM85 ad) 0 66 (some (ad 43))
def shSM88 : Nat → Option z_S := z_sh shSM86 44 (.inl (.int, 10))
theorem hs_shSM88_0 : shSM88 0 = some (.inr 12) := hs_shSM86_0
def PSM89 (ad : Nat → Nat) : z_P := z_up (PSM87 ad) 0 67 (some (ad 44))
def shSM90 : Nat → Option z_S := z_sh shSM88 45 (.inl (.int, 300))
theorem hs_shSM90_0 : shSM90 0 = some (.inr 12) := hs_shSM88_0
def PSM91 (ad : Nat → Nat) : z_P := z_up (PSM89 ad) 0 68 (some (ad 45))
def shSM92 : Nat → Option z_S := z_sh shSM90 46 (.inl (.int, 300))
theorem hs_shSM92_0 : shSM92 0 = some (.inr 12) := hs_shSM90_0
def PSM93 (ad : Nat → Nat) : z_P := z_up (PSM91 ad) 0 69 (some (ad 46))
def shSM94 : Nat → Option z_S := z_sh shSM92 47 (.inl (.int, 10))
theorem hs_shSM94_0 : shSM94 0 = some (.inr 12) := hs_shSM92_0
def PSM95 (ad : Nat → Nat) : z_P := z_up (PSM93 ad) 0 70 (some (ad 47))
def shSM96 : Nat → Option z_S := z_sh shSM94 48 (.inl (.int, 300))
theorem hs_shSM96_0 : shSM96 0 = some (.inr 12) := hs_shSM94_0
def PSM97 (ad : Nat → Nat) : z_P := z_up (PSM95 ad) 0 71 (some (ad 48))
def shSM98 : Nat → Option z_S := z_sh shSM96 49 (.inl (.int, 300))
theorem hs_shSM98_0 : shSM98 0 = some (.inr 12) := hs_shSM96_0
def PSM99 (ad : Nat → Nat) : z_P := z_up (PSM97 ad) 0 72 (some (ad 49))
def shSM100 : Nat → Option z_S := z_sh shSM98 50 (.inl (.int, 300))
theorem hs_shSM100_0 : shSM100 0 = some (.inr 12) := hs_shSM98_0
def PSM101 (ad : Nat → Nat) : z_P := z_up (PSM99 ad) 0 73 (some (ad 50))
def shSM102 : Nat → Option z_S := z_sh shSM100 51 (.inl (.int, 30))
theorem hs_shSM102_0 : shSM102 0 = some (.inr 12) := hs_shSM100_0
def PSM103 (ad : Nat → Nat) : z_P := z_up (PSM101 ad) 0 74 (some (ad 51))
def shSM104 : Nat → Option z_S := z_sh shSM102 52 (.inl (.int, 4))
theorem hs_shSM104_0 : shSM104 0 = some (.inr 12) := hs_shSM102_0
def PSM105 (ad : Nat → Nat) : z_P := z_up (PSM103 ad) 0 76 (some (ad 52))
def shSM106 : Nat → Option z_S := z_sh shSM104 53 (.inl (.int, 10))
theorem hs_shSM106_0 : shSM106 0 = some (.inr 12) := hs_shSM104_0
def PSM107 (ad : Nat → Nat) : z_P := z_up (PSM105 ad) 0 77 (some (ad 53))
def shSM108 : Nat → Option z_S := z_sh shSM106 54 (.inl (.int, 40))
theorem hs_shSM108_0 : shSM108 0 = some (.inr 12) := hs_shSM106_0
def PSM109 (ad : Nat → Nat) : z_P := z_up (PSM107 ad) 0 78 (some (ad 54))
def shSM110 : Nat → Option z_S := z_sh shSM108 55 (.inl (.int, 256))
theorem hs_shSM110_0 : shSM110 0 = some (.inr 12) := hs_shSM108_0
def PSM111 (ad : Nat → Nat) : z_P := z_up (PSM109 ad) 0 79 (some (ad 55))
def shSM112 : Nat → Option z_S := z_sh shSM110 56 (.inl (.int, 256))
theorem hs_shSM112_0 : shSM112 0 = some (.inr 12) := hs_shSM110_0
def PSM113 (ad : Nat → Nat) : z_P := z_up (PSM111 ad) 0 80 (some (ad 56))
def shSM114 : Nat → Option z_S := z_sh shSM112 57 (.inl (.int, 16))
theorem hs_shSM114_0 : shSM114 0 = some (.inr 12) := hs_shSM112_0
def PSM115 (ad : Nat → Nat) : z_P := z_up (PSM113 ad) 0 81 (some (ad 57))
def shSM116 : Nat → Option z_S := z_sh shSM114 58 (.inl (.int, 16))
theorem hs_shSM116_0 : shSM116 0 = some (.inr 12) := hs_shSM114_0
def PSM117 (ad : Nat → Nat) : z_P := z_up (PSM115 ad) 0 82 (some (ad 58))
def shSM118 : Nat → Option z_S := z_sh shSM116 59 (.inl (.int, 60))
theorem hs_shSM118_0 : shSM118 0 = some (.inr 12) := hs_shSM116_0
def PSM119 (ad : Nat → Nat) : z_P := z_up (PSM117 ad) 0 84 (some (ad 59))
def shSM120 : Nat → Option z_S := z_sh shSM118 60 (.inl (.int, 60))
theorem hs_shSM120_0 : shSM120 0 = some (.inr 12) := hs_shSM118_0
def PSM121 (ad : Nat → Nat) : z_P := z_up (PSM119 ad) 0 85 (some (ad 60))
def shSM122 : Nat → Option z_S := z_sh shSM120 61 (.inl (.int, 60))
theorem hs_shSM122_0 : shSM122 0 = some (.inr 12) := hs_shSM120_0
def PSM123 (ad : Nat → Nat) : z_P := z_up (PSM121 ad) 0 86 (some (ad 61))
def shSM124 : Nat → Option z_S := z_sh shSM122 62 (.inl (.int, 60))
theorem hs_shSM124_0 : shSM124 0 = some (.inr 12) := hs_shSM122_0
def PSM125 (ad : Nat → Nat) : z_P := z_up (PSM123 ad) 0 87 (some (ad 62))
def shSM126 : Nat → Option z_S := z_sh shSM124 63 (.inl (.int, 60))
theorem hs_shSM126_0 : shSM126 0 = some (.inr 12) := hs_shSM124_0
def PSM127 (ad : Nat → Nat) : z_P := z_up (PSM125 ad) 0 88 (some (ad 63))
def shSM128 : Nat → Option z_S := z_sh shSM126 64 (.inl (.int, 60))
theorem hs_shSM128_0 : shSM128 0 = some (.inr 12) := hs_shSM126_0
def PSM129 (ad : Nat → Nat) : z_P := z_up (PSM127 ad) 0 89 (some (ad 64))
def shSM130 : Nat → Option z_S := z_sh shSM128 65 (.inl (.int, 60))
theorem hs_shSM130_0 : shSM130 0 = some (.inr 12) := hs_shSM128_0
def PSM131 (ad : Nat → Nat) : z_P := z_up (PSM129 ad) 0 90 (some (ad 65))
def shSM132 : Nat → Option z_S := z_sh shSM130 66 (.inl (.int, 60))
theorem hs_shSM132_0 : shSM132 0 = some (.inr 12) := hs_shSM130_0
def PSM133 (ad : Nat → Nat) : z_P := z_up (PSM131 ad) 0 91 (some (ad 66))
def shSM134 : Nat → Option z_S := z_sh shSM132 67 (.inl (.int, 60))
theorem hs_shSM134_0 : shSM134 0 = some (.inr 12) := hs_shSM132_0
def PSM135 (ad : Nat → Nat) : z_P := z_up (PSM133 ad) 0 92 (some (ad 67))
def shSM136 : Nat → Option z_S := z_sh shSM134 68 (.inl (.int, 12))
theorem hs_shSM136_0 : shSM136 0 = some (.inr 12) := hs_shSM134_0
def PSM137 (ad : Nat → Nat) : z_P := z_up (PSM135 ad) 0 93 (some (ad 68))
def shSM138 : Nat → Option z_S := z_sh shSM136 69 (.inl (.int, 30))
theorem hs_shSM138_0 : shSM138 0 = some (.inr 12) := hs_shSM136_0
def PSM139 (ad : Nat → Nat) : z_P := z_up (PSM137 ad) 0 94 (some (ad 69))
def shSM140 : Nat → Option z_S := z_sh shSM138 70 (.inl (.boolean, 30))
theorem hs_shSM140_0 : shSM140 0 = some (.inr 12) := hs_shSM138_0
def PSM141 (ad : Nat → Nat) : z_P := z_up (PSM139 ad) 0 95 (some (ad 70))
theorem zi_X12_init_X12 : ∀ w ∈ wsX120, w ∈ wsX12_init := fun w h => (List.mem_cons_of_mem _ (List.mem_append_right _ h))
set_option maxHeartbeats 8000000 in
set_option maxRecDepth 100000 in
theorem ct_X12_init (l : Launch) (G : z_G) (ad : Nat → Nat) (had : ∀ k i, ad (i + k) = ad i + k) (sz : Nat) (hz : sz = ad 1) : z_Mc l yX12_init wsX12_init { frames := 1, cells := 70, slots := 207095, locals := 12 } [.ref (ad 0)] G (shM0, ad, IM0, z_J0, (PM0 ad)) (shSM140, ad, ISM51, z_J0, (PSM141 ad)) 70 70 207095 sz := by
  refine z_headQ (cc := cX12_init) (maxL := 1) (ret := none) (by decide) rfl (Nat.le_of_ble_eq_true rfl) ?_
  intro p e s m below meth c ls hIn hK hsz hW hl
  obtain ⟨hx, hb, hr, hml, hown, hts, hlocks, hname⟩ := hIn
  subst hsz
  have hz0 := hz
  have hown : s.vm.findClass RX12 = some m.cls := hown
  have hname : meth.name = "<init>" := hname
  have hA : ∀ q : Nat, s.heap.size ≤ q → z_A (shM0, ad, IM0, z_J0, (PM0 ad)) s.heap.size q := fun q h => Or.inr h
  generalize hAe : z_A (shM0, ad, IM0, z_J0, (PM0 ad)) s.heap.size = A at *
  have hS : va_S A s.heap s.heap [] := va_S.rf
  have hl : lv_has ls 1 [(0, .ref (ad 0))] := hl
  refine lv_aload_n hx hb dX12_init_0 rfl (lv_at hl 0 rfl) ?_
  refine W.objInit hx hb hown (hts (.methodLink RX12 1 objectInit) (List.mem_of_getElem? (i := 1) rfl)) (hts (.instanceMethod objectInit) (List.mem_of_getElem? (i := 2) rfl)) (hts (.code objectInit ⟨#[0xb1]⟩ 1 none) (List.mem_of_getElem? (i := 3) rfl)) rfl (by rw [hml]; exact hl.1) rfl dX12_init_1 (Nat.le_of_ble_eq_true rfl) (Nat.le_of_ble_eq_true rfl) ?_
  refine W.eq (g2 := F0 m 4 ls []) rfl ?_
  refine lv_aload_n hx hb dX12_init_4 rfl (lv_at hl 0 rfl) ?_
  refine lv_bipush (v := 30) hx hb dX12_init_5 (by decide) ?_
  refine z_newa 1 ad (atype := .int) (ty := .int) (N' := 30) hx hb (hts (.arrayClass .int) (List.mem_of_getElem? (i := 4) rfl)) rfl hK (by simp [z_tys]) hW hS hA hz.symm (fun _ _ => rfl) (fun _ => rfl) (by decide) rfl (Nat.le_of_ble_eq_true rfl) (Nat.le_of_ble_eq_true rfl) (Nat.le_of_ble_eq_true rfl) dX12_init_7 (fun H hz1 hW hS => ?_)
  have hz : H.size = ad 2 := hz1.trans ((congrArg (· + 1) hz).trans (had 1 _).symm)
  have hW : z_W _ A (shSM1, ad, IM0, z_J0, (PM0 ad)) H := hW
  refine z_putF (T := TX12) (N := 96) (ci := 12) (i := 0) (v := .ref (ad 1)) (I1 := IM0) (J1 := z_J0) (P1 := (PSM2 ad)) hx hb hts zi_X12_init_X12 tyX12 tyX12_ok nmX12 hown hK hW hS hs_shSM1_0 rfl 3 (by decide) (hts (.fieldLink RX12 7 "PetrolBoardModel" "sizeOf" "[I") (List.mem_of_getElem? (i := 5) rfl)) (fun _ h => h) rfl hname rfl rfl rfl (by first | rfl | exact congrArg _ z_up_s) (fun a b h ty => z_vP h ty) dX12_init_9 (fun H locs hz1 hW hS => ?_)
  have hz : H.size = ad 2 := hz1.trans hz
  refine lv_aload_n hx hb dX12_init_12 rfl (lv_at hl 0 rfl) ?_
  refine lv_bipush (v := 30) hx hb dX12_init_13 (by decide) ?_
  refine z_newa 2 ad (atype := .int) (ty := .int) (N' := 30) hx hb (hts (.arrayClass .int) (List.mem_of_getElem? (i := 4) rfl)) rfl hK (by simp [z_tys]) hW hS hA hz.symm (fun _ _ => rfl) (fun _ => rfl) (by decide) rfl (Nat.le_of_ble_eq_true rfl) (Nat.le_of_ble_eq_true rfl) (Nat.le_of_ble_eq_true rfl) dX12_init_15 (fun H hz1 hW hS => ?_)
  have hz : H.size = ad 3 := hz1.trans ((congrArg (· + 1) hz).trans (had 1 _).symm)
  have hW : z_W _ A (shSM3, ad, IM0, z_J0, (PSM2 ad)) H := hW
  refine z_putF (T := TX12) (N := 96) (ci := 12) (i := 0) (v := .ref (ad 2)) (I1 := IM0) (J1 := z_J0) (P1 := (PSM4 ad)) hx hb hts zi_X12_init_X12 tyX12 tyX12_ok nmX12 hown hK hW hS hs_shSM3_0 rfl 4 (by decide) (hts (.fieldLink RX12 13 "PetrolBoardModel" "townOf" "[I") (List.mem_of_getElem? (i := 6) rfl)) (fun _ h => h) rfl hname rfl rfl rfl (by first | rfl | exact congrArg _ z_up_s) (fun a b h ty => z_vP h ty) dX12_init_17 (fun H locs hz1 hW hS => ?_)
  have hz : H.size = ad 3 := hz1.trans hz
  refine lv_aload_n hx hb dX12_init_20 rfl (lv_at hl 0 rfl) ?_
  refine lv_bipush (v := 30) hx hb dX12_init_21 (by decide) ?_
  refine z_newa 3 ad (atype := .int) (ty := .int) (N' := 30) hx hb (hts (.arrayClass .int) (List.mem_of_getElem? (i := 4) rfl)) rfl hK (by simp [z_tys]) hW hS hA hz.symm (fun _ _ => rfl) (fun _ => rfl) (by decide) rfl (Nat.le_of_ble_eq_true rfl) (Nat.le_of_ble_eq_true rfl) (Nat.le_of_ble_eq_true rfl) dX12_init_23 (fun H hz1 hW hS => ?_)
  have hz : H.size = ad 4 := hz1.trans ((congrArg (· + 1) hz).trans (had 1 _).symm)
  have hW : z_W _ A (shSM5, ad, IM0, z_J0, (PSM4 ad)) H := hW
  refine z_putF (T := TX12) (N := 96) (ci := 12) (i := 0) (v := .ref (ad 3)) (I1 := IM0) (J1 := z_J0) (P1 := (PSM6 ad)) hx hb hts zi_X12_init_X12 tyX12 tyX12_ok nmX12 hown hK hW hS hs_shSM5_0 rfl 5 (by decide) (hts (.fieldLink RX12 16 "PetrolBoardModel" "seatsOf" "[I") (List.mem_of_getElem? (i := 7) rfl)) (fun _ h => h) rfl hname rfl rfl rfl (by first | rfl | exact congrArg _ z_up_s) (fun a b h ty => z_vP h ty) dX12_init_25 (fun H locs hz1 hW hS => ?_)
  have hz : H.size = ad 4 := hz1.trans hz
  refine lv_aload_n hx hb dX12_init_28 rfl (lv_at hl 0 rfl) ?_
  refine lv_bipush (v := 30) hx hb dX12_init_29 (by decide) ?_
  refine z_newa 4 ad (atype := .int) (ty := .int) (N' := 30) hx hb (hts (.arrayClass .int) (List.mem_of_getElem? (i := 4) rfl)) rfl hK (by simp [z_tys]) hW hS hA hz.symm (fun _ _ => rfl) (fun _ => rfl) (by decide) rfl (Nat.le_of_ble_eq_true rfl) (Nat.le_of_ble_eq_true rfl) (Nat.le_of_ble_eq_true rfl) dX12_init_31 (fun H hz1 hW hS => ?_)
  have hz : H.size = ad 5 := hz1.trans ((congrArg (· + 1) hz).trans (had 1 _).symm)
  have hW : z_W _ A (shSM7, ad, IM0, z_J0, (PSM6 ad)) H := hW
  refine z_putF (T := TX12) (N := 96) (ci := 12) (i := 0) (v := .ref (ad 4)) (I1 := IM0) (J1 := z_J0) (P1 := (PSM8 ad)) hx hb hts zi_X12_init_X12 tyX12 tyX12_ok nmX12 hown hK hW hS hs_shSM7_0 rfl 6 (by decide) (hts (.fieldLink RX12 19 "PetrolBoardModel" "bidOf" "[I") (List.mem_of_getElem? (i := 8) rfl)) (fun _ h => h) rfl hname rfl rfl rfl (by first | rfl | exact congrArg _ z_up_s) (fun a b h ty => z_vP h ty) dX12_init_33 (fun H locs hz1 hW hS => ?_)
  have hz : H.size = ad 5 := hz1.trans hz
  refine lv_aload_n hx hb dX12_init_36 rfl (lv_at hl 0 rfl) ?_
  refine lv_bipush (v := 30) hx hb dX12_init_37 (by decide) ?_
  refine z_newa 5 ad (atype := .int) (ty := .int) (N' := 30) hx hb (hts (.arrayClass .int) (List.mem_of_getElem? (i := 4) rfl)) rfl hK (by simp [z_tys]) hW hS hA hz.symm (fun _ _ => rfl) (fun _ => rfl) (by decide) rfl (Nat.le_of_ble_eq_true rfl) (Nat.le_of_ble_eq_true rfl) (Nat.le_of_ble_eq_true rfl) dX12_init_39 (fun H hz1 hW hS => ?_)
  have hz : H.size = ad 6 := hz1.trans ((congrArg (· + 1) hz).trans (had 1 _).symm)
  have hW : z_W _ A (shSM9, ad, IM0, z_J0, (PSM8 ad)) H := hW
  refine z_putF (T := TX12) (N := 96) (ci := 12) (i := 0) (v := .ref (ad 5)) (I1 := IM0) (J1 := z_J0) (P1 := (PSM10 ad)) hx hb hts zi_X12_init_X12 tyX12 tyX12_ok nmX12 hown hK hW hS hs_shSM9_0 rfl 7 (by decide) (hts (.fieldLink RX12 22 "PetrolBoardModel" "needOf" "[I") (List.mem_of_getElem? (i := 9) rfl)) (fun _ h => h) rfl hname rfl rfl rfl (by first | rfl | exact congrArg _ z_up_s) (fun a b h ty => z_vP h ty) dX12_init_41 (fun H locs hz1 hW hS => ?_)
  have hz : H.size = ad 6 := hz1.trans hz
  refine lv_aload_n hx hb dX12_init_44 rfl (lv_at hl 0 rfl) ?_
  refine lv_sipush (v := 200) hx hb dX12_init_45 (by decide) ?_
  refine z_newa 6 ad (atype := .int) (ty := .int) (N' := 200) hx hb (hts (.arrayClass .int) (List.mem_of_getElem? (i := 4) rfl)) rfl hK (by simp [z_tys]) hW hS hA hz.symm (fun _ _ => rfl) (fun _ => rfl) (by decide) rfl (Nat.le_of_ble_eq_true rfl) (Nat.le_of_ble_eq_true rfl) (Nat.le_of_ble_eq_true rfl) dX12_init_48 (fun H hz1 hW hS => ?_)
  have hz : H.size = ad 7 := hz1.trans ((congrArg (· + 1) hz).trans (had 1 _).symm)
  have hW : z_W _ A (shSM11, ad, IM0, z_J0, (PSM10 ad)) H := hW
  refine z_putF (T := TX12) (N := 96) (ci := 12) (i := 0) (v := .ref (ad 6)) (I1 := IM0) (J1 := z_J0) (P1 := (PSM12 ad)) hx hb hts zi_X12_init_X12 tyX12 tyX12_ok nmX12 hown hK hW hS hs_shSM11_0 rfl 8 (by decide) (hts (.fieldLink RX12 25 "PetrolBoardModel" "noteWho" "[I") (List.mem_of_getElem? (i := 10) rfl)) (fun _ h => h) rfl hname rfl rfl rfl (by first | rfl | exact congrArg _ z_up_s) (fun a b h ty => z_vP h ty) dX12_init_50 (fun H locs hz1 hW hS => ?_)
  have hz : H.size = ad 7 := hz1.trans hz
  refine lv_aload_n hx hb dX12_init_53 rfl (lv_at hl 0 rfl) ?_
  refine lv_sipush (v := 200) hx hb dX12_init_54 (by decide) ?_
  refine z_newa 7 ad (atype := .int) (ty := .int) (N' := 200) hx hb (hts (.arrayClass .int) (List.mem_of_getElem? (i := 4) rfl)) rfl hK (by simp [z_tys]) hW hS hA hz.symm (fun _ _ => rfl) (fun _ => rfl) (by decide) rfl (Nat.le_of_ble_eq_true rfl) (Nat.le_of_ble_eq_true rfl) (Nat.le_of_ble_eq_true rfl) dX12_init_57 (fun H hz1 hW hS => ?_)
  have hz : H.size = ad 8 := hz1.trans ((congrArg (· + 1) hz).trans (had 1 _).symm)
  have hW : z_W _ A (shSM13, ad, IM0, z_J0, (PSM12 ad)) H := hW
  refine z_putF (T := TX12) (N := 96) (ci := 12) (i := 0) (v := .ref (ad 7)) (I1 := IM0) (J1 := z_J0) (P1 := (PSM14 ad)) hx hb hts zi_X12_init_X12 tyX12 tyX12_ok nmX12 hown hK hW hS hs_shSM13_0 rfl 9 (by decide) (hts (.fieldLink RX12 28 "PetrolBoardModel" "noteClass" "[I") (List.mem_of_getElem? (i := 11) rfl)) (fun _ h => h) rfl hname rfl rfl rfl (by first | rfl | exact congrArg _ z_up_s) (fun a b h ty => z_vP h ty) dX12_init_59 (fun H locs hz1 hW hS => ?_)
  have hz : H.size = ad 8 := hz1.trans hz
  refine lv_aload_n hx hb dX12_init_62 rfl (lv_at hl 0 rfl) ?_
  refine lv_sipush (v := 200) hx hb dX12_init_63 (by decide) ?_
  refine z_newa 8 ad (atype := .int) (ty := .int) (N' := 200) hx hb (hts (.arrayClass .int) (List.mem_of_getElem? (i := 4) rfl)) rfl hK (by simp [z_tys]) hW hS hA hz.symm (fun _ _ => rfl) (fun _ => rfl) (by decide) rfl (Nat.le_of_ble_eq_true rfl) (Nat.le_of_ble_eq_true rfl) (Nat.le_of_ble_eq_true rfl) dX12_init_66 (fun H hz1 hW hS => ?_)
  have hz : H.size = ad 9 := hz1.trans ((congrArg (· + 1) hz).trans (had 1 _).symm)
  have hW : z_W _ A (shSM15, ad, IM0, z_J0, (PSM14 ad)) H := hW
  refine z_putF (T := TX12) (N := 96) (ci := 12) (i := 0) (v := .ref (ad 8)) (I1 := IM0) (J1 := z_J0) (P1 := (PSM16 ad)) hx hb hts zi_X12_init_X12 tyX12 tyX12_ok nmX12 hown hK hW hS hs_shSM15_0 rfl 10 (by decide) (hts (.fieldLink RX12 31 "PetrolBoardModel" "noteFrom" "[I") (List.mem_of_getElem? (i := 12) rfl)) (fun _ h => h) rfl hname rfl rfl rfl (by first | rfl | exact congrArg _ z_up_s) (fun a b h ty => z_vP h ty) dX12_init_68 (fun H locs hz1 hW hS => ?_)
  have hz : H.size = ad 9 := hz1.trans hz
  refine lv_aload_n hx hb dX12_init_71 rfl (lv_at hl 0 rfl) ?_
  refine lv_sipush (v := 200) hx hb dX12_init_72 (by decide) ?_
  refine z_newa 9 ad (atype := .int) (ty := .int) (N' := 200) hx hb (hts (.arrayClass .int) (List.mem_of_getElem? (i := 4) rfl)) rfl hK (by simp [z_tys]) hW hS hA hz.symm (fun _ _ => rfl) (fun _ => rfl) (by decide) rfl (Nat.le_of_ble_eq_true rfl) (Nat.le_of_ble_eq_true rfl) (Nat.le_of_ble_eq_true rfl) dX12_init_75 (fun H hz1 hW hS => ?_)
  have hz : H.size = ad 10 := hz1.trans ((congrArg (· + 1) hz).trans (had 1 _).symm)
  have hW : z_W _ A (shSM17, ad, IM0, z_J0, (PSM16 ad)) H := hW
  refine z_putF (T := TX12) (N := 96) (ci := 12) (i := 0) (v := .ref (ad 9)) (I1 := IM0) (J1 := z_J0) (P1 := (PSM18 ad)) hx hb hts zi_X12_init_X12 tyX12 tyX12_ok nmX12 hown hK hW hS hs_shSM17_0 rfl 11 (by decide) (hts (.fieldLink RX12 34 "PetrolBoardModel" "noteTold" "[I") (List.mem_of_getElem? (i := 13) rfl)) (fun _ h => h) rfl hname rfl rfl rfl (by first | rfl | exact congrArg _ z_up_s) (fun a b h ty => z_vP h ty) dX12_init_77 (fun H locs hz1 hW hS => ?_)
  have hz : H.size = ad 10 := hz1.trans hz
  refine lv_aload_n hx hb dX12_init_80 rfl (lv_at hl 0 rfl) ?_
  refine lv_sipush (v := 200) hx hb dX12_init_81 (by decide) ?_
  refine z_newa 10 ad (atype := .int) (ty := .int) (N' := 200) hx hb (hts (.arrayClass .int) (List.mem_of_getElem? (i := 4) rfl)) rfl hK (by simp [z_tys]) hW hS hA hz.symm (fun _ _ => rfl) (fun _ => rfl) (by decide) rfl (Nat.le_of_ble_eq_true rfl) (Nat.le_of_ble_eq_true rfl) (Nat.le_of_ble_eq_true rfl) dX12_init_84 (fun H hz1 hW hS => ?_)
  have hz : H.size = ad 11 := hz1.trans ((congrArg (· + 1) hz).trans (had 1 _).symm)
  have hW : z_W _ A (shSM19, ad, IM0, z_J0, (PSM18 ad)) H := hW
  refine z_putF (T := TX12) (N := 96) (ci := 12) (i := 0) (v := .ref (ad 10)) (I1 := IM0) (J1 := z_J0) (P1 := (PSM20 ad)) hx hb hts zi_X12_init_X12 tyX12 tyX12_ok nmX12 hown hK hW hS hs_shSM19_0 rfl 12 (by decide) (hts (.fieldLink RX12 37 "PetrolBoardModel" "noteGone" "[I") (List.mem_of_getElem? (i := 14) rfl)) (fun _ h => h) rfl hname rfl rfl rfl (by first | rfl | exact congrArg _ z_up_s) (fun a b h ty => z_vP h ty) dX12_init_86 (fun H locs hz1 hW hS => ?_)
  have hz : H.size = ad 11 := hz1.trans hz
  refine lv_aload_n hx hb dX12_init_89 rfl (lv_at hl 0 rfl) ?_
  refine lv_bipush (v := 12) hx hb dX12_init_90 (by decide) ?_
  refine z_newa 11 ad (atype := .int) (ty := .int) (N' := 12) hx hb (hts (.arrayClass .int) (List.mem_of_getElem? (i := 4) rfl)) rfl hK (by simp [z_tys]) hW hS hA hz.symm (fun _ _ => rfl) (fun _ => rfl) (by decide) rfl (Nat.le_of_ble_eq_true rfl) (Nat.le_of_ble_eq_true rfl) (Nat.le_of_ble_eq_true rfl) dX12_init_92 (fun H hz1 hW hS => ?_)
  have hz : H.size = ad 12 := hz1.trans ((congrArg (· + 1) hz).trans (had 1 _).symm)
  have hW : z_W _ A (shSM21, ad, IM0, z_J0, (PSM20 ad)) H := hW
  refine z_putF (T := TX12) (N := 96) (ci := 12) (i := 0) (v := .ref (ad 11)) (I1 := IM0) (J1 := z_J0) (P1 := (PSM22 ad)) hx hb hts zi_X12_init_X12 tyX12 tyX12_ok nmX12 hown hK hW hS hs_shSM21_0 rfl 16 (by decide) (hts (.fieldLink RX12 40 "PetrolBoardModel" "textFirst" "[I") (List.mem_of_getElem? (i := 15) rfl)) (fun _ h => h) rfl hname rfl rfl rfl (by first | rfl | exact congrArg _ z_up_s) (fun a b h ty => z_vP h ty) dX12_init_94 (fun H locs hz1 hW hS => ?_)
  have hz : H.size = ad 12 := hz1.trans hz
  refine lv_aload_n hx hb dX12_init_97 rfl (lv_at hl 0 rfl) ?_
  refine lv_bipush (v := 12) hx hb dX12_init_98 (by decide) ?_
  refine z_newa 12 ad (atype := .int) (ty := .int) (N' := 12) hx hb (hts (.arrayClass .int) (List.mem_of_getElem? (i := 4) rfl)) rfl hK (by simp [z_tys]) hW hS hA hz.symm (fun _ _ => rfl) (fun _ => rfl) (by decide) rfl (Nat.le_of_ble_eq_true rfl) (Nat.le_of_ble_eq_true rfl) (Nat.le_of_ble_eq_true rfl) dX12_init_100 (fun H hz1 hW hS => ?_)
  have hz : H.size = ad 13 := hz1.trans ((congrArg (· + 1) hz).trans (had 1 _).symm)
  have hW : z_W _ A (shSM23, ad, IM0, z_J0, (PSM22 ad)) H := hW
  refine z_putF (T := TX12) (N := 96) (ci := 12) (i := 0) (v := .ref (ad 12)) (I1 := IM0) (J1 := z_J0) (P1 := (PSM24 ad)) hx hb hts zi_X12_init_X12 tyX12 tyX12_ok nmX12 hown hK hW hS hs_shSM23_0 rfl 17 (by decide) (hts (.fieldLink RX12 43 "PetrolBoardModel" "textMany" "[I") (List.mem_of_getElem? (i := 16) rfl)) (fun _ h => h) rfl hname rfl rfl rfl (by first | rfl | exact congrArg _ z_up_s) (fun a b h ty => z_vP h ty) dX12_init_102 (fun H locs hz1 hW hS => ?_)
  have hz : H.size = ad 13 := hz1.trans hz
  refine lv_aload_n hx hb dX12_init_105 rfl (lv_at hl 0 rfl) ?_
  refine lv_bipush (v := 12) hx hb dX12_init_106 (by decide) ?_
  refine z_newa 13 ad (atype := .int) (ty := .int) (N' := 12) hx hb (hts (.arrayClass .int) (List.mem_of_getElem? (i := 4) rfl)) rfl hK (by simp [z_tys]) hW hS hA hz.symm (fun _ _ => rfl) (fun _ => rfl) (by decide) rfl (Nat.le_of_ble_eq_true rfl) (Nat.le_of_ble_eq_true rfl) (Nat.le_of_ble_eq_true rfl) dX12_init_108 (fun H hz1 hW hS => ?_)
  have hz : H.size = ad 14 := hz1.trans ((congrArg (· + 1) hz).trans (had 1 _).symm)
  have hW : z_W _ A (shSM25, ad, IM0, z_J0, (PSM24 ad)) H := hW
  refine z_putF (T := TX12) (N := 96) (ci := 12) (i := 0) (v := .ref (ad 13)) (I1 := IM0) (J1 := z_J0) (P1 := (PSM26 ad)) hx hb hts zi_X12_init_X12 tyX12 tyX12_ok nmX12 hown hK hW hS hs_shSM25_0 rfl 18 (by decide) (hts (.fieldLink RX12 46 "PetrolBoardModel" "textMonth" "[I") (List.mem_of_getElem? (i := 17) rfl)) (fun _ h => h) rfl hname rfl rfl rfl (by first | rfl | exact congrArg _ z_up_s) (fun a b h ty => z_vP h ty) dX12_init_110 (fun H locs hz1 hW hS => ?_)
  have hz : H.size = ad 14 := hz1.trans hz
  refine lv_aload_n hx hb dX12_init_113 rfl (lv_at hl 0 rfl) ?_
  refine lv_bipush (v := 12) hx hb dX12_init_114 (by decide) ?_
  refine z_newa 14 ad (atype := .int) (ty := .int) (N' := 12) hx hb (hts (.arrayClass .int) (List.mem_of_getElem? (i := 4) rfl)) rfl hK (by simp [z_tys]) hW hS hA hz.symm (fun _ _ => rfl) (fun _ => rfl) (by decide) rfl (Nat.le_of_ble_eq_true rfl) (Nat.le_of_ble_eq_true rfl) (Nat.le_of_ble_eq_true rfl) dX12_init_116 (fun H hz1 hW hS => ?_)
  have hz : H.size = ad 15 := hz1.trans ((congrArg (· + 1) hz).trans (had 1 _).symm)
  have hW : z_W _ A (shSM27, ad, IM0, z_J0, (PSM26 ad)) H := hW
  refine z_putF (T := TX12) (N := 96) (ci := 12) (i := 0) (v := .ref (ad 14)) (I1 := IM0) (J1 := z_J0) (P1 := (PSM28 ad)) hx hb hts zi_X12_init_X12 tyX12 tyX12_ok nmX12 hown hK hW hS hs_shSM27_0 rfl 19 (by decide) (hts (.fieldLink RX12 49 "PetrolBoardModel" "textTold" "[I") (List.mem_of_getElem? (i := 18) rfl)) (fun _ h => h) rfl hname rfl rfl rfl (by first | rfl | exact congrArg _ z_up_s) (fun a b h ty => z_vP h ty) dX12_init_118 (fun H locs hz1 hW hS => ?_)
  have hz : H.size = ad 15 := hz1.trans hz
  refine lv_aload_n hx hb dX12_init_121 rfl (lv_at hl 0 rfl) ?_
  refine lv_sipush (v := 320) hx hb dX12_init_122 (by decide) ?_
  refine z_newa 15 ad (atype := .int) (ty := .int) (N' := 320) hx hb (hts (.arrayClass .int) (List.mem_of_getElem? (i := 4) rfl)) rfl hK (by simp [z_tys]) hW hS hA hz.symm (fun _ _ => rfl) (fun _ => rfl) (by decide) rfl (Nat.le_of_ble_eq_true rfl) (Nat.le_of_ble_eq_true rfl) (Nat.le_of_ble_eq_true rfl) dX12_init_125 (fun H hz1 hW hS => ?_)
  have hz : H.size = ad 16 := hz1.trans ((congrArg (· + 1) hz).trans (had 1 _).symm)
  have hW : z_W _ A (shSM29, ad, IM0, z_J0, (PSM28 ad)) H := hW
  refine z_putF (T := TX12) (N := 96) (ci := 12) (i := 0) (v := .ref (ad 15)) (I1 := IM0) (J1 := z_J0) (P1 := (PSM30 ad)) hx hb hts zi_X12_init_X12 tyX12 tyX12_ok nmX12 hown hK hW hS hs_shSM29_0 rfl 20 (by decide) (hts (.fieldLink RX12 52 "PetrolBoardModel" "stRule" "[I") (List.mem_of_getElem? (i := 19) rfl)) (fun _ h => h) rfl hname rfl rfl rfl (by first | rfl | exact congrArg _ z_up_s) (fun a b h ty => z_vP h ty) dX12_init_127 (fun H locs hz1 hW hS => ?_)
  have hz : H.size = ad 16 := hz1.trans hz
  refine lv_aload_n hx hb dX12_init_130 rfl (lv_at hl 0 rfl) ?_
  refine lv_sipush (v := 320) hx hb dX12_init_131 (by decide) ?_
  refine z_newa 16 ad (atype := .int) (ty := .int) (N' := 320) hx hb (hts (.arrayClass .int) (List.mem_of_getElem? (i := 4) rfl)) rfl hK (by simp [z_tys]) hW hS hA hz.symm (fun _ _ => rfl) (fun _ => rfl) (by decide) rfl (Nat.le_of_ble_eq_true rfl) (Nat.le_of_ble_eq_true rfl) (Nat.le_of_ble_eq_true rfl) dX12_init_134 (fun H hz1 hW hS => ?_)
  have hz : H.size = ad 17 := hz1.trans ((congrArg (· + 1) hz).trans (had 1 _).symm)
  have hW : z_W _ A (shSM31, ad, IM0, z_J0, (PSM30 ad)) H := hW
  refine z_putF (T := TX12) (N := 96) (ci := 12) (i := 0) (v := .ref (ad 16)) (I1 := IM0) (J1 := z_J0) (P1 := (PSM32 ad)) hx hb hts zi_X12_init_X12 tyX12 tyX12_ok nmX12 hown hK hW hS hs_shSM31_0 rfl 21 (by decide) (hts (.fieldLink RX12 55 "PetrolBoardModel" "stNumber" "[I") (List.mem_of_getElem? (i := 20) rfl)) (fun _ h => h) rfl hname rfl rfl rfl (by first | rfl | exact congrArg _ z_up_s) (fun a b h ty => z_vP h ty) dX12_init_136 (fun H locs hz1 hW hS => ?_)
  have hz : H.size = ad 17 := hz1.trans hz
  refine lv_aload_n hx hb dX12_init_139 rfl (lv_at hl 0 rfl) ?_
  refine lv_sipush (v := 320) hx hb dX12_init_140 (by decide) ?_
  refine z_newa 17 ad (atype := .int) (ty := .int) (N' := 320) hx hb (hts (.arrayClass .int) (List.mem_of_getElem? (i := 4) rfl)) rfl hK (by simp [z_tys]) hW hS hA hz.symm (fun _ _ => rfl) (fun _ => rfl) (by decide) rfl (Nat.le_of_ble_eq_true rfl) (Nat.le_of_ble_eq_true rfl) (Nat.le_of_ble_eq_true rfl) dX12_init_143 (fun H hz1 hW hS => ?_)
  have hz : H.size = ad 18 := hz1.trans ((congrArg (· + 1) hz).trans (had 1 _).symm)
  have hW : z_W _ A (shSM33, ad, IM0, z_J0, (PSM32 ad)) H := hW
  refine z_putF (T := TX12) (N := 96) (ci := 12) (i := 0) (v := .ref (ad 17)) (I1 := IM0) (J1 := z_J0) (P1 := (PSM34 ad)) hx hb hts zi_X12_init_X12 tyX12 tyX12_ok nmX12 hown hK hW hS hs_shSM33_0 rfl 22 (by decide) (hts (.fieldLink RX12 58 "PetrolBoardModel" "stEx" "[I") (List.mem_of_getElem? (i := 21) rfl)) (fun _ h => h) rfl hname rfl rfl rfl (by first | rfl | exact congrArg _ z_up_s) (fun a b h ty => z_vP h ty) dX12_init_145 (fun H locs hz1 hW hS => ?_)
  have hz : H.size = ad 18 := hz1.trans hz
  refine lv_aload_n hx hb dX12_init_148 rfl (lv_at hl 0 rfl) ?_
  refine lv_sipush (v := 320) hx hb dX12_init_149 (by decide) ?_
  refine z_newa 18 ad (atype := .int) (ty := .int) (N' := 320) hx hb (hts (.arrayClass .int) (List.mem_of_getElem? (i := 4) rfl)) rfl hK (by simp [z_tys]) hW hS hA hz.symm (fun _ _ => rfl) (fun _ => rfl) (by decide) rfl (Nat.le_of_ble_eq_true rfl) (Nat.le_of_ble_eq_true rfl) (Nat.le_of_ble_eq_true rfl) dX12_init_152 (fun H hz1 hW hS => ?_)
  have hz : H.size = ad 19 := hz1.trans ((congrArg (· + 1) hz).trans (had 1 _).symm)
  have hW : z_W _ A (shSM35, ad, IM0, z_J0, (PSM34 ad)) H := hW
  refine z_putF (T := TX12) (N := 96) (ci := 12) (i := 0) (v := .ref (ad 18)) (I1 := IM0) (J1 := z_J0) (P1 := (PSM36 ad)) hx hb hts zi_X12_init_X12 tyX12 tyX12_ok nmX12 hown hK hW hS hs_shSM35_0 rfl 23 (by decide) (hts (.fieldLink RX12 61 "PetrolBoardModel" "stCond" "[I") (List.mem_of_getElem? (i := 22) rfl)) (fun _ h => h) rfl hname rfl rfl rfl (by first | rfl | exact congrArg _ z_up_s) (fun a b h ty => z_vP h ty) dX12_init_154 (fun H locs hz1 hW hS => ?_)
  have hz : H.size = ad 19 := hz1.trans hz
  refine lv_aload_n hx hb dX12_init_157 rfl (lv_at hl 0 rfl) ?_
  refine lv_sipush (v := 320) hx hb dX12_init_158 (by decide) ?_
  refine z_newa 19 ad (atype := .int) (ty := .int) (N' := 320) hx hb (hts (.arrayClass .int) (List.mem_of_getElem? (i := 4) rfl)) rfl hK (by simp [z_tys]) hW hS hA hz.symm (fun _ _ => rfl) (fun _ => rfl) (by decide) rfl (Nat.le_of_ble_eq_true rfl) (Nat.le_of_ble_eq_true rfl) (Nat.le_of_ble_eq_true rfl) dX12_init_161 (fun H hz1 hW hS => ?_)
  have hz : H.size = ad 20 := hz1.trans ((congrArg (· + 1) hz).trans (had 1 _).symm)
  have hW : z_W _ A (shSM37, ad, IM0, z_J0, (PSM36 ad)) H := hW
  refine z_putF (T := TX12) (N := 96) (ci := 12) (i := 0) (v := .ref (ad 19)) (I1 := IM0) (J1 := z_J0) (P1 := (PSM38 ad)) hx hb hts zi_X12_init_X12 tyX12 tyX12_ok nmX12 hown hK hW hS hs_shSM37_0 rfl 24 (by decide) (hts (.fieldLink RX12 64 "PetrolBoardModel" "stFrom" "[I") (List.mem_of_getElem? (i := 23) rfl)) (fun _ h => h) rfl hname rfl rfl rfl (by first | rfl | exact congrArg _ z_up_s) (fun a b h ty => z_vP h ty) dX12_init_163 (fun H locs hz1 hW hS => ?_)
  have hz : H.size = ad 20 := hz1.trans hz
  refine lv_aload_n hx hb dX12_init_166 rfl (lv_at hl 0 rfl) ?_
  refine lv_sipush (v := 320) hx hb dX12_init_167 (by decide) ?_
  refine z_newa 20 ad (atype := .int) (ty := .int) (N' := 320) hx hb (hts (.arrayClass .int) (List.mem_of_getElem? (i := 4) rfl)) rfl hK (by simp [z_tys]) hW hS hA hz.symm (fun _ _ => rfl) (fun _ => rfl) (by decide) rfl (Nat.le_of_ble_eq_true rfl) (Nat.le_of_ble_eq_true rfl) (Nat.le_of_ble_eq_true rfl) dX12_init_170 (fun H hz1 hW hS => ?_)
  have hz : H.size = ad 21 := hz1.trans ((congrArg (· + 1) hz).trans (had 1 _).symm)
  have hW : z_W _ A (shSM39, ad, IM0, z_J0, (PSM38 ad)) H := hW
  refine z_putF (T := TX12) (N := 96) (ci := 12) (i := 0) (v := .ref (ad 20)) (I1 := IM0) (J1 := z_J0) (P1 := (PSM40 ad)) hx hb hts zi_X12_init_X12 tyX12 tyX12_ok nmX12 hown hK hW hS hs_shSM39_0 rfl 25 (by decide) (hts (.fieldLink RX12 67 "PetrolBoardModel" "stTo" "[I") (List.mem_of_getElem? (i := 24) rfl)) (fun _ h => h) rfl hname rfl rfl rfl (by first | rfl | exact congrArg _ z_up_s) (fun a b h ty => z_vP h ty) dX12_init_172 (fun H locs hz1 hW hS => ?_)
  have hz : H.size = ad 21 := hz1.trans hz
  refine lv_aload_n hx hb dX12_init_175 rfl (lv_at hl 0 rfl) ?_
  refine lv_sipush (v := 6200) hx hb dX12_init_176 (by decide) ?_
  refine z_newa 21 ad (atype := .int) (ty := .int) (N' := 6200) hx hb (hts (.arrayClass .int) (List.mem_of_getElem? (i := 4) rfl)) rfl hK (by simp [z_tys]) hW hS hA hz.symm (fun _ _ => rfl) (fun _ => rfl) (by decide) rfl (Nat.le_of_ble_eq_true rfl) (Nat.le_of_ble_eq_true rfl) (Nat.le_of_ble_eq_true rfl) dX12_init_179 (fun H hz1 hW hS => ?_)
  have hz : H.size = ad 22 := hz1.trans ((congrArg (· + 1) hz).trans (had 1 _).symm)
  have hW : z_W _ A (shSM41, ad, IM0, z_J0, (PSM40 ad)) H := hW
  refine z_putF (T := TX12) (N := 96) (ci := 12) (i := 0) (v := .ref (ad 21)) (I1 := IM0) (J1 := z_J0) (P1 := (PSM42 ad)) hx hb hts zi_X12_init_X12 tyX12 tyX12_ok nmX12 hown hK hW hS hs_shSM41_0 rfl 26 (by decide) (hts (.fieldLink RX12 70 "PetrolBoardModel" "nodeKind" "[I") (List.mem_of_getElem? (i := 25) rfl)) (fun _ h => h) rfl hname rfl rfl rfl (by first | rfl | exact congrArg _ z_up_s) (fun a b h ty => z_vP h ty) dX12_init_181 (fun H locs hz1 hW hS => ?_)
  have hz : H.size = ad 22 := hz1.trans hz
  refine lv_aload_n hx hb dX12_init_184 rfl (lv_at hl 0 rfl) ?_
  refine lv_sipush (v := 6200) hx hb dX12_init_185 (by decide) ?_
  refine z_newa 22 ad (atype := .int) (ty := .int) (N' := 6200) hx hb (hts (.arrayClass .int) (List.mem_of_getElem? (i := 4) rfl)) rfl hK (by simp [z_tys]) hW hS hA hz.symm (fun _ _ => rfl) (fun _ => rfl) (by decide) rfl (Nat.le_of_ble_eq_true rfl) (Nat.le_of_ble_eq_true rfl) (Nat.le_of_ble_eq_true rfl) dX12_init_188 (fun H hz1 hW hS => ?_)
  have hz : H.size = ad 23 := hz1.trans ((congrArg (· + 1) hz).trans (had 1 _).symm)
  have hW : z_W _ A (shSM43, ad, IM0, z_J0, (PSM42 ad)) H := hW
  refine z_putF (T := TX12) (N := 96) (ci := 12) (i := 0) (v := .ref (ad 22)) (I1 := IM0) (J1 := z_J0) (P1 := (PSM44 ad)) hx hb hts zi_X12_init_X12 tyX12 tyX12_ok nmX12 hown hK hW hS hs_shSM43_0 rfl 27 (by decide) (hts (.fieldLink RX12 73 "PetrolBoardModel" "nodeA" "[I") (List.mem_of_getElem? (i := 26) rfl)) (fun _ h => h) rfl hname rfl rfl rfl (by first | rfl | exact congrArg _ z_up_s) (fun a b h ty => z_vP h ty) dX12_init_190 (fun H locs hz1 hW hS => ?_)
  have hz : H.size = ad 23 := hz1.trans hz
  refine lv_aload_n hx hb dX12_init_193 rfl (lv_at hl 0 rfl) ?_
  refine lv_sipush (v := 6200) hx hb dX12_init_194 (by decide) ?_
  refine z_newa 23 ad (atype := .int) (ty := .int) (N' := 6200) hx hb (hts (.arrayClass .int) (List.mem_of_getElem? (i := 4) rfl)) rfl hK (by simp [z_tys]) hW hS hA hz.symm (fun _ _ => rfl) (fun _ => rfl) (by decide) rfl (Nat.le_of_ble_eq_true rfl) (Nat.le_of_ble_eq_true rfl) (Nat.le_of_ble_eq_true rfl) dX12_init_197 (fun H hz1 hW hS => ?_)
  have hz : H.size = ad 24 := hz1.trans ((congrArg (· + 1) hz).trans (had 1 _).symm)
  have hW : z_W _ A (shSM45, ad, IM0, z_J0, (PSM44 ad)) H := hW
  refine z_putF (T := TX12) (N := 96) (ci := 12) (i := 0) (v := .ref (ad 23)) (I1 := IM0) (J1 := z_J0) (P1 := (PSM46 ad)) hx hb hts zi_X12_init_X12 tyX12 tyX12_ok nmX12 hown hK hW hS hs_shSM45_0 rfl 28 (by decide) (hts (.fieldLink RX12 76 "PetrolBoardModel" "nodeB" "[I") (List.mem_of_getElem? (i := 27) rfl)) (fun _ h => h) rfl hname rfl rfl rfl (by first | rfl | exact congrArg _ z_up_s) (fun a b h ty => z_vP h ty) dX12_init_199 (fun H locs hz1 hW hS => ?_)
  have hz : H.size = ad 24 := hz1.trans hz
  refine lv_aload_n hx hb dX12_init_202 rfl (lv_at hl 0 rfl) ?_
  refine lv_sipush (v := 6200) hx hb dX12_init_203 (by decide) ?_
  refine z_newa 24 ad (atype := .long) (ty := .long) (N' := 6200) hx hb (hts (.arrayClass .long) (List.mem_of_getElem? (i := 28) rfl)) rfl hK (by simp [z_tys]) hW hS hA hz.symm (fun _ _ => rfl) (fun _ => rfl) (by decide) rfl (Nat.le_of_ble_eq_true rfl) (Nat.le_of_ble_eq_true rfl) (Nat.le_of_ble_eq_true rfl) dX12_init_206 (fun H hz1 hW hS => ?_)
  have hz : H.size = ad 25 := hz1.trans ((congrArg (· + 1) hz).trans (had 1 _).symm)
  have hW : z_W _ A (shSM47, ad, IM0, z_J0, (PSM46 ad)) H := hW
  refine z_putF (T := TX12) (N := 96) (ci := 12) (i := 0) (v := .ref (ad 24)) (I1 := IM0) (J1 := z_J0) (P1 := (PSM48 ad)) hx hb hts zi_X12_init_X12 tyX12 tyX12_ok nmX12 hown hK hW hS hs_shSM47_0 rfl 29 (by decide) (hts (.fieldLink RX12 79 "PetrolBoardModel" "result" "[J") (List.mem_of_getElem? (i := 29) rfl)) (fun _ h => h) rfl hname rfl rfl rfl (by first | rfl | exact congrArg _ z_up_s) (fun a b h ty => z_vP h ty) dX12_init_208 (fun H locs hz1 hW hS => ?_)
  have hz : H.size = ad 25 := hz1.trans hz
  refine lv_aload_n hx hb dX12_init_211 rfl (lv_at hl 0 rfl) ?_
  refine lv_sipush (v := 500) hx hb dX12_init_212 (by decide) ?_
  refine z_newa 25 ad (atype := .byte) (ty := .byte) (N' := 500) hx hb (hts (.arrayClass .byte) (List.mem_of_getElem? (i := 30) rfl)) rfl hK (by simp [z_tys]) hW hS hA hz.symm (fun _ _ => rfl) (fun _ => rfl) (by decide) rfl (Nat.le_of_ble_eq_true rfl) (Nat.le_of_ble_eq_true rfl) (Nat.le_of_ble_eq_true rfl) dX12_init_215 (fun H hz1 hW hS => ?_)
  have hz : H.size = ad 26 := hz1.trans ((congrArg (· + 1) hz).trans (had 1 _).symm)
  have hW : z_W _ A (shSM49, ad, IM0, z_J0, (PSM48 ad)) H := hW
  refine z_putF (T := TX12) (N := 96) (ci := 12) (i := 0) (v := .ref (ad 25)) (I1 := IM0) (J1 := z_J0) (P1 := (PSM50 ad)) hx hb hts zi_X12_init_X12 tyX12 tyX12_ok nmX12 hown hK hW hS hs_shSM49_0 rfl 30 (by decide) (hts (.fieldLink RX12 83 "PetrolBoardModel" "tape" "[B") (List.mem_of_getElem? (i := 31) rfl)) (fun _ h => h) rfl hname rfl rfl rfl (by first | rfl | exact congrArg _ z_up_s) (fun a b h ty => z_vP h ty) dX12_init_217 (fun H locs hz1 hW hS => ?_)
  have hz : H.size = ad 26 := hz1.trans hz
  refine lv_aload_n hx hb dX12_init_220 rfl (lv_at hl 0 rfl) ?_
  refine lv_iconst (v := (-1)) hx hb dX12_init_221 (by decide) ?_
  refine z_put (T := TX12) (N := 96) (ci := 12) (i := 0) (v := .int (-1)) (I1 := ISM51) (J1 := z_J0) (P1 := (PSM50 ad)) hx hb hts zi_X12_init_X12 tyX12 tyX12_ok nmX12 hown hK hW hS hs_shSM49_0 rfl 32 (by decide) (hts (.fieldLink RX12 87 "PetrolBoardModel" "faultAt" "I") (List.mem_of_getElem? (i := 32) rfl)) (fun _ h => h) rfl rfl rfl (by first | rfl | exact congrArg _ z_up_s) (fun a b h ty => z_vI h ty) dX12_init_222 (fun H locs hz1 hW hS => ?_)
  have hz : H.size = ad 26 := hz1.trans hz
  refine lv_aload_n hx hb dX12_init_225 rfl (lv_at hl 0 rfl) ?_
  refine lv_bipush (v := 120) hx hb dX12_init_226 (by decide) ?_
  refine z_newa 26 ad (atype := .int) (ty := .int) (N' := 120) hx hb (hts (.arrayClass .int) (List.mem_of_getElem? (i := 4) rfl)) rfl hK (by simp [z_tys]) hW hS hA hz.symm (fun _ _ => rfl) (fun _ => rfl) (by decide) rfl (Nat.le_of_ble_eq_true rfl) (Nat.le_of_ble_eq_true rfl) (Nat.le_of_ble_eq_true rfl) dX12_init_228 (fun H hz1 hW hS => ?_)
  have hz : H.size = ad 27 := hz1.trans ((congrArg (· + 1) hz).trans (had 1 _).symm)
  have hW : z_W _ A (shSM52, ad, ISM51, z_J0, (PSM50 ad)) H := hW
  refine z_putF (T := TX12) (N := 96) (ci := 12) (i := 0) (v := .ref (ad 26)) (I1 := ISM51) (J1 := z_J0) (P1 := (PSM53 ad)) hx hb hts zi_X12_init_X12 tyX12 tyX12_ok nmX12 hown hK hW hS hs_shSM52_0 rfl 43 (by decide) (hts (.fieldLink RX12 91 "PetrolBoardModel" "what" "[I") (List.mem_of_getElem? (i := 33) rfl)) (fun _ h => h) rfl hname rfl rfl rfl (by first | rfl | exact congrArg _ z_up_s) (fun a b h ty => z_vP h ty) dX12_init_230 (fun H locs hz1 hW hS => ?_)
  have hz : H.size = ad 27 := hz1.trans hz
  refine lv_aload_n hx hb dX12_init_233 rfl (lv_at hl 0 rfl) ?_
  refine lv_bipush (v := 120) hx hb dX12_init_234 (by decide) ?_
  refine z_newa 27 ad (atype := .int) (ty := .int) (N' := 120) hx hb (hts (.arrayClass .int) (List.mem_of_getElem? (i := 4) rfl)) rfl hK (by simp [z_tys]) hW hS hA hz.symm (fun _ _ => rfl) (fun _ => rfl) (by decide) rfl (Nat.le_of_ble_eq_true rfl) (Nat.le_of_ble_eq_true rfl) (Nat.le_of_ble_eq_true rfl) dX12_init_236 (fun H hz1 hW hS => ?_)
  have hz : H.size = ad 28 := hz1.trans ((congrArg (· + 1) hz).trans (had 1 _).symm)
  have hW : z_W _ A (shSM54, ad, ISM51, z_J0, (PSM53 ad)) H := hW
  refine z_putF (T := TX12) (N := 96) (ci := 12) (i := 0) (v := .ref (ad 27)) (I1 := ISM51) (J1 := z_J0) (P1 := (PSM55 ad)) hx hb hts zi_X12_init_X12 tyX12 tyX12_ok nmX12 hown hK hW hS hs_shSM54_0 rfl 44 (by decide) (hts (.fieldLink RX12 94 "PetrolBoardModel" "at" "[I") (List.mem_of_getElem? (i := 34) rfl)) (fun _ h => h) rfl hname rfl rfl rfl (by first | rfl | exact congrArg _ z_up_s) (fun a b h ty => z_vP h ty) dX12_init_238 (fun H locs hz1 hW hS => ?_)
  have hz : H.size = ad 28 := hz1.trans hz
  refine lv_aload_n hx hb dX12_init_241 rfl (lv_at hl 0 rfl) ?_
  refine lv_bipush (v := 120) hx hb dX12_init_242 (by decide) ?_
  refine z_newa 28 ad (atype := .int) (ty := .int) (N' := 120) hx hb (hts (.arrayClass .int) (List.mem_of_getElem? (i := 4) rfl)) rfl hK (by simp [z_tys]) hW hS hA hz.symm (fun _ _ => rfl) (fun _ => rfl) (by decide) rfl (Nat.le_of_ble_eq_true rfl) (Nat.le_of_ble_eq_true rfl) (Nat.le_of_ble_eq_true rfl) dX12_init_244 (fun H hz1 hW hS => ?_)
  have hz : H.size = ad 29 := hz1.trans ((congrArg (· + 1) hz).trans (had 1 _).symm)
  have hW : z_W _ A (shSM56, ad, ISM51, z_J0, (PSM55 ad)) H := hW
  refine z_putF (T := TX12) (N := 96) (ci := 12) (i := 0) (v := .ref (ad 28)) (I1 := ISM51) (J1 := z_J0) (P1 := (PSM57 ad)) hx hb hts zi_X12_init_X12 tyX12 tyX12_ok nmX12 hown hK hW hS hs_shSM56_0 rfl 45 (by decide) (hts (.fieldLink RX12 97 "PetrolBoardModel" "one" "[I") (List.mem_of_getElem? (i := 35) rfl)) (fun _ h => h) rfl hname rfl rfl rfl (by first | rfl | exact congrArg _ z_up_s) (fun a b h ty => z_vP h ty) dX12_init_246 (fun H locs hz1 hW hS => ?_)
  have hz : H.size = ad 29 := hz1.trans hz
  refine lv_aload_n hx hb dX12_init_249 rfl (lv_at hl 0 rfl) ?_
  refine lv_bipush (v := 120) hx hb dX12_init_250 (by decide) ?_
  refine z_newa 29 ad (atype := .int) (ty := .int) (N' := 120) hx hb (hts (.arrayClass .int) (List.mem_of_getElem? (i := 4) rfl)) rfl hK (by simp [z_tys]) hW hS hA hz.symm (fun _ _ => rfl) (fun _ => rfl) (by decide) rfl (Nat.le_of_ble_eq_true rfl) (Nat.le_of_ble_eq_true rfl) (Nat.le_of_ble_eq_true rfl) dX12_init_252 (fun H hz1 hW hS => ?_)
  have hz : H.size = ad 30 := hz1.trans ((congrArg (· + 1) hz).trans (had 1 _).symm)
  have hW : z_W _ A (shSM58, ad, ISM51, z_J0, (PSM57 ad)) H := hW
  refine z_putF (T := TX12) (N := 96) (ci := 12) (i := 0) (v := .ref (ad 29)) (I1 := ISM51) (J1 := z_J0) (P1 := (PSM59 ad)) hx hb hts zi_X12_init_X12 tyX12 tyX12_ok nmX12 hown hK hW hS hs_shSM58_0 rfl 46 (by decide) (hts (.fieldLink RX12 100 "PetrolBoardModel" "sort" "[I") (List.mem_of_getElem? (i := 36) rfl)) (fun _ h => h) rfl hname rfl rfl rfl (by first | rfl | exact congrArg _ z_up_s) (fun a b h ty => z_vP h ty) dX12_init_254 (fun H locs hz1 hW hS => ?_)
  have hz : H.size = ad 30 := hz1.trans hz
  refine lv_aload_n hx hb dX12_init_257 rfl (lv_at hl 0 rfl) ?_
  refine lv_bipush (v := 7) hx hb dX12_init_258 (by decide) ?_
  refine z_newa 30 ad (atype := .long) (ty := .long) (N' := 7) hx hb (hts (.arrayClass .long) (List.mem_of_getElem? (i := 28) rfl)) rfl hK (by simp [z_tys]) hW hS hA hz.symm (fun _ _ => rfl) (fun _ => rfl) (by decide) rfl (Nat.le_of_ble_eq_true rfl) (Nat.le_of_ble_eq_true rfl) (Nat.le_of_ble_eq_true rfl) dX12_init_260 (fun H hz1 hW hS => ?_)
  have hz : H.size = ad 31 := hz1.trans ((congrArg (· + 1) hz).trans (had 1 _).symm)
  have hW : z_W _ A (shSM60, ad, ISM51, z_J0, (PSM59 ad)) H := hW
  refine z_putF (T := TX12) (N := 96) (ci := 12) (i := 0) (v := .ref (ad 30)) (I1 := ISM51) (J1 := z_J0) (P1 := (PSM61 ad)) hx hb hts zi_X12_init_X12 tyX12 tyX12_ok nmX12 hown hK hW hS hs_shSM60_0 rfl 48 (by decide) (hts (.fieldLink RX12 103 "PetrolBoardModel" "asks" "[J") (List.mem_of_getElem? (i := 37) rfl)) (fun _ h => h) rfl hname rfl rfl rfl (by first | rfl | exact congrArg _ z_up_s) (fun a b h ty => z_vP h ty) dX12_init_262 (fun H locs hz1 hW hS => ?_)
  have hz : H.size = ad 31 := hz1.trans hz
  refine lv_aload_n hx hb dX12_init_265 rfl (lv_at hl 0 rfl) ?_
  refine lv_sipush (v := 720) hx hb dX12_init_266 (by decide) ?_
  refine z_newa 31 ad (atype := .int) (ty := .int) (N' := 720) hx hb (hts (.arrayClass .int) (List.mem_of_getElem? (i := 4) rfl)) rfl hK (by simp [z_tys]) hW hS hA hz.symm (fun _ _ => rfl) (fun _ => rfl) (by decide) rfl (Nat.le_of_ble_eq_true rfl) (Nat.le_of_ble_eq_true rfl) (Nat.le_of_ble_eq_true rfl) dX12_init_269 (fun H hz1 hW hS => ?_)
  have hz : H.size = ad 32 := hz1.trans ((congrArg (· + 1) hz).trans (had 1 _).symm)
  have hW : z_W _ A (shSM62, ad, ISM51, z_J0, (PSM61 ad)) H := hW
  refine z_putF (T := TX12) (N := 96) (ci := 12) (i := 0) (v := .ref (ad 31)) (I1 := ISM51) (J1 := z_J0) (P1 := (PSM63 ad)) hx hb hts zi_X12_init_X12 tyX12 tyX12_ok nmX12 hown hK hW hS hs_shSM62_0 rfl 49 (by decide) (hts (.fieldLink RX12 106 "PetrolBoardModel" "issued" "[I") (List.mem_of_getElem? (i := 38) rfl)) (fun _ h => h) rfl hname rfl rfl rfl (by first | rfl | exact congrArg _ z_up_s) (fun a b h ty => z_vP h ty) dX12_init_271 (fun H locs hz1 hW hS => ?_)
  have hz : H.size = ad 32 := hz1.trans hz
  refine lv_aload_n hx hb dX12_init_274 rfl (lv_at hl 0 rfl) ?_
  refine lv_ldc (v := 72000) hx hb hown (hts (.constant RX12 109 (72000)) (List.mem_of_getElem? (i := 39) rfl)) dX12_init_275 ?_
  refine z_newa 32 ad (atype := .int) (ty := .int) (N' := 72000) hx hb (hts (.arrayClass .int) (List.mem_of_getElem? (i := 4) rfl)) rfl hK (by simp [z_tys]) hW hS hA hz.symm (fun _ _ => rfl) (fun _ => rfl) (by decide) rfl (Nat.le_of_ble_eq_true rfl) (Nat.le_of_ble_eq_true rfl) (Nat.le_of_ble_eq_true rfl) dX12_init_277 (fun H hz1 hW hS => ?_)
  have hz : H.size = ad 33 := hz1.trans ((congrArg (· + 1) hz).trans (had 1 _).symm)
  have hW : z_W _ A (shSM64, ad, ISM51, z_J0, (PSM63 ad)) H := hW
  refine z_putF (T := TX12) (N := 96) (ci := 12) (i := 0) (v := .ref (ad 32)) (I1 := ISM51) (J1 := z_J0) (P1 := (PSM65 ad)) hx hb hts zi_X12_init_X12 tyX12 tyX12_ok nmX12 hown hK hW hS hs_shSM64_0 rfl 52 (by decide) (hts (.fieldLink RX12 110 "PetrolBoardModel" "lentTo" "[I") (List.mem_of_getElem? (i := 40) rfl)) (fun _ h => h) rfl hname rfl rfl rfl (by first | rfl | exact congrArg _ z_up_s) (fun a b h ty => z_vP h ty) dX12_init_279 (fun H locs hz1 hW hS => ?_)
  have hz : H.size = ad 33 := hz1.trans hz
  refine lv_aload_n hx hb dX12_init_282 rfl (lv_at hl 0 rfl) ?_
  refine lv_ldc (v := 100000) hx hb hown (hts (.constant RX12 113 (100000)) (List.mem_of_getElem? (i := 41) rfl)) dX12_init_283 ?_
  refine z_newa 33 ad (atype := .boolean) (ty := .boolean) (N' := 100000) hx hb (hts (.arrayClass .boolean) (List.mem_of_getElem? (i := 42) rfl)) rfl hK (by simp [z_tys]) hW hS hA hz.symm (fun _ _ => rfl) (fun _ => rfl) (by decide) rfl (Nat.le_of_ble_eq_true rfl) (Nat.le_of_ble_eq_true rfl) (Nat.le_of_ble_eq_true rfl) dX12_init_285 (fun H hz1 hW hS => ?_)
  have hz : H.size = ad 34 := hz1.trans ((congrArg (· + 1) hz).trans (had 1 _).symm)
  have hW : z_W _ A (shSM66, ad, ISM51, z_J0, (PSM65 ad)) H := hW
  refine z_putF (T := TX12) (N := 96) (ci := 12) (i := 0) (v := .ref (ad 33)) (I1 := ISM51) (J1 := z_J0) (P1 := (PSM67 ad)) hx hb hts zi_X12_init_X12 tyX12 tyX12_ok nmX12 hown hK hW hS hs_shSM66_0 rfl 53 (by decide) (hts (.fieldLink RX12 114 "PetrolBoardModel" "wasIn" "[Z") (List.mem_of_getElem? (i := 43) rfl)) (fun _ h => h) rfl hname rfl rfl rfl (by first | rfl | exact congrArg _ z_up_s) (fun a b h ty => z_vP h ty) dX12_init_287 (fun H locs hz1 hW hS => ?_)
  have hz : H.size = ad 34 := hz1.trans hz
  refine lv_aload_n hx hb dX12_init_290 rfl (lv_at hl 0 rfl) ?_
  refine lv_sipush (v := 300) hx hb dX12_init_291 (by decide) ?_
  refine z_newa 34 ad (atype := .int) (ty := .int) (N' := 300) hx hb (hts (.arrayClass .int) (List.mem_of_getElem? (i := 4) rfl)) rfl hK (by simp [z_tys]) hW hS hA hz.symm (fun _ _ => rfl) (fun _ => rfl) (by decide) rfl (Nat.le_of_ble_eq_true rfl) (Nat.le_of_ble_eq_true rfl) (Nat.le_of_ble_eq_true rfl) dX12_init_294 (fun H hz1 hW hS => ?_)
  have hz : H.size = ad 35 := hz1.trans ((congrArg (· + 1) hz).trans (had 1 _).symm)
  have hW : z_W _ A (shSM68, ad, ISM51, z_J0, (PSM67 ad)) H := hW
  refine z_putF (T := TX12) (N := 96) (ci := 12) (i := 0) (v := .ref (ad 34)) (I1 := ISM51) (J1 := z_J0) (P1 := (PSM69 ad)) hx hb hts zi_X12_init_X12 tyX12 tyX12_ok nmX12 hown hK hW hS hs_shSM68_0 rfl 57 (by decide) (hts (.fieldLink RX12 118 "PetrolBoardModel" "pourAt" "[I") (List.mem_of_getElem? (i := 44) rfl)) (fun _ h => h) rfl hname rfl rfl rfl (by first | rfl | exact congrArg _ z_up_s) (fun a b h ty => z_vP h ty) dX12_init_296 (fun H locs hz1 hW hS => ?_)
  have hz : H.size = ad 35 := hz1.trans hz
  refine lv_aload_n hx hb dX12_init_299 rfl (lv_at hl 0 rfl) ?_
  refine lv_sipush (v := 300) hx hb dX12_init_300 (by decide) ?_
  refine z_newa 35 ad (atype := .int) (ty := .int) (N' := 300) hx hb (hts (.arrayClass .int) (List.mem_of_getElem? (i := 4) rfl)) rfl hK (by simp [z_tys]) hW hS hA hz.symm (fun _ _ => rfl) (fun _ => rfl) (by decide) rfl (Nat.le_of_ble_eq_true rfl) (Nat.le_of_ble_eq_true rfl) (Nat.le_of_ble_eq_true rfl) dX12_init_303 (fun H hz1 hW hS => ?_)
  have hz : H.size = ad 36 := hz1.trans ((congrArg (· + 1) hz).trans (had 1 _).symm)
  have hW : z_W _ A (shSM70, ad, ISM51, z_J0, (PSM69 ad)) H := hW
  refine z_putF (T := TX12) (N := 96) (ci := 12) (i := 0) (v := .ref (ad 35)) (I1 := ISM51) (J1 := z_J0) (P1 := (PSM71 ad)) hx hb hts zi_X12_init_X12 tyX12 tyX12_ok nmX12 hown hK hW hS hs_shSM70_0 rfl 58 (by decide) (hts (.fieldLink RX12 121 "PetrolBoardModel" "pourWho" "[I") (List.mem_of_getElem? (i := 45) rfl)) (fun _ h => h) rfl hname rfl rfl rfl (by first | rfl | exact congrArg _ z_up_s) (fun a b h ty => z_vP h ty) dX12_init_305 (fun H locs hz1 hW hS => ?_)
  have hz : H.size = ad 36 := hz1.trans hz
  refine lv_aload_n hx hb dX12_init_308 rfl (lv_at hl 0 rfl) ?_
  refine lv_sipush (v := 300) hx hb dX12_init_309 (by decide) ?_
  refine z_newa 36 ad (atype := .int) (ty := .int) (N' := 300) hx hb (hts (.arrayClass .int) (List.mem_of_getElem? (i := 4) rfl)) rfl hK (by simp [z_tys]) hW hS hA hz.symm (fun _ _ => rfl) (fun _ => rfl) (by decide) rfl (Nat.le_of_ble_eq_true rfl) (Nat.le_of_ble_eq_true rfl) (Nat.le_of_ble_eq_true rfl) dX12_init_312 (fun H hz1 hW hS => ?_)
  have hz : H.size = ad 37 := hz1.trans ((congrArg (· + 1) hz).trans (had 1 _).symm)
  have hW : z_W _ A (shSM72, ad, ISM51, z_J0, (PSM71 ad)) H := hW
  refine z_putF (T := TX12) (N := 96) (ci := 12) (i := 0) (v := .ref (ad 36)) (I1 := ISM51) (J1 := z_J0) (P1 := (PSM73 ad)) hx hb hts zi_X12_init_X12 tyX12 tyX12_ok nmX12 hown hK hW hS hs_shSM72_0 rfl 59 (by decide) (hts (.fieldLink RX12 124 "PetrolBoardModel" "pourCoupon" "[I") (List.mem_of_getElem? (i := 46) rfl)) (fun _ h => h) rfl hname rfl rfl rfl (by first | rfl | exact congrArg _ z_up_s) (fun a b h ty => z_vP h ty) dX12_init_314 (fun H locs hz1 hW hS => ?_)
  have hz : H.size = ad 37 := hz1.trans hz
  refine lv_aload_n hx hb dX12_init_317 rfl (lv_at hl 0 rfl) ?_
  refine lv_sipush (v := 300) hx hb dX12_init_318 (by decide) ?_
  refine z_newa 37 ad (atype := .int) (ty := .int) (N' := 300) hx hb (hts (.arrayClass .int) (List.mem_of_getElem? (i := 4) rfl)) rfl hK (by simp [z_tys]) hW hS hA hz.symm (fun _ _ => rfl) (fun _ => rfl) (by decide) rfl (Nat.le_of_ble_eq_true rfl) (Nat.le_of_ble_eq_true rfl) (Nat.le_of_ble_eq_true rfl) dX12_init_321 (fun H hz1 hW hS => ?_)
  have hz : H.size = ad 38 := hz1.trans ((congrArg (· + 1) hz).trans (had 1 _).symm)
  have hW : z_W _ A (shSM74, ad, ISM51, z_J0, (PSM73 ad)) H := hW
  refine z_putF (T := TX12) (N := 96) (ci := 12) (i := 0) (v := .ref (ad 37)) (I1 := ISM51) (J1 := z_J0) (P1 := (PSM75 ad)) hx hb hts zi_X12_init_X12 tyX12 tyX12_ok nmX12 hown hK hW hS hs_shSM74_0 rfl 60 (by decide) (hts (.fieldLink RX12 127 "PetrolBoardModel" "pourDay" "[I") (List.mem_of_getElem? (i := 47) rfl)) (fun _ h => h) rfl hname rfl rfl rfl (by first | rfl | exact congrArg _ z_up_s) (fun a b h ty => z_vP h ty) dX12_init_323 (fun H locs hz1 hW hS => ?_)
  have hz : H.size = ad 38 := hz1.trans hz
  refine lv_aload_n hx hb dX12_init_326 rfl (lv_at hl 0 rfl) ?_
  refine lv_sipush (v := 300) hx hb dX12_init_327 (by decide) ?_
  refine z_newa 38 ad (atype := .int) (ty := .int) (N' := 300) hx hb (hts (.arrayClass .int) (List.mem_of_getElem? (i := 4) rfl)) rfl hK (by simp [z_tys]) hW hS hA hz.symm (fun _ _ => rfl) (fun _ => rfl) (by decide) rfl (Nat.le_of_ble_eq_true rfl) (Nat.le_of_ble_eq_true rfl) (Nat.le_of_ble_eq_true rfl) dX12_init_330 (fun H hz1 hW hS => ?_)
  have hz : H.size = ad 39 := hz1.trans ((congrArg (· + 1) hz).trans (had 1 _).symm)
  have hW : z_W _ A (shSM76, ad, ISM51, z_J0, (PSM75 ad)) H := hW
  refine z_putF (T := TX12) (N := 96) (ci := 12) (i := 0) (v := .ref (ad 38)) (I1 := ISM51) (J1 := z_J0) (P1 := (PSM77 ad)) hx hb hts zi_X12_init_X12 tyX12 tyX12_ok nmX12 hown hK hW hS hs_shSM76_0 rfl 61 (by decide) (hts (.fieldLink RX12 130 "PetrolBoardModel" "pourTenths" "[I") (List.mem_of_getElem? (i := 48) rfl)) (fun _ h => h) rfl hname rfl rfl rfl (by first | rfl | exact congrArg _ z_up_s) (fun a b h ty => z_vP h ty) dX12_init_332 (fun H locs hz1 hW hS => ?_)
  have hz : H.size = ad 39 := hz1.trans hz
  refine lv_aload_n hx hb dX12_init_335 rfl (lv_at hl 0 rfl) ?_
  refine lv_sipush (v := 300) hx hb dX12_init_336 (by decide) ?_
  refine z_newa 39 ad (atype := .int) (ty := .int) (N' := 300) hx hb (hts (.arrayClass .int) (List.mem_of_getElem? (i := 4) rfl)) rfl hK (by simp [z_tys]) hW hS hA hz.symm (fun _ _ => rfl) (fun _ => rfl) (by decide) rfl (Nat.le_of_ble_eq_true rfl) (Nat.le_of_ble_eq_true rfl) (Nat.le_of_ble_eq_true rfl) dX12_init_339 (fun H hz1 hW hS => ?_)
  have hz : H.size = ad 40 := hz1.trans ((congrArg (· + 1) hz).trans (had 1 _).symm)
  have hW : z_W _ A (shSM78, ad, ISM51, z_J0, (PSM77 ad)) H := hW
  refine z_putF (T := TX12) (N := 96) (ci := 12) (i := 0) (v := .ref (ad 39)) (I1 := ISM51) (J1 := z_J0) (P1 := (PSM79 ad)) hx hb hts zi_X12_init_X12 tyX12 tyX12_ok nmX12 hown hK hW hS hs_shSM78_0 rfl 62 (by decide) (hts (.fieldLink RX12 133 "PetrolBoardModel" "pourOwner" "[I") (List.mem_of_getElem? (i := 49) rfl)) (fun _ h => h) rfl hname rfl rfl rfl (by first | rfl | exact congrArg _ z_up_s) (fun a b h ty => z_vP h ty) dX12_init_341 (fun H locs hz1 hW hS => ?_)
  have hz : H.size = ad 40 := hz1.trans hz
  refine lv_aload_n hx hb dX12_init_344 rfl (lv_at hl 0 rfl) ?_
  refine lv_sipush (v := 300) hx hb dX12_init_345 (by decide) ?_
  refine z_newa 40 ad (atype := .int) (ty := .int) (N' := 300) hx hb (hts (.arrayClass .int) (List.mem_of_getElem? (i := 4) rfl)) rfl hK (by simp [z_tys]) hW hS hA hz.symm (fun _ _ => rfl) (fun _ => rfl) (by decide) rfl (Nat.le_of_ble_eq_true rfl) (Nat.le_of_ble_eq_true rfl) (Nat.le_of_ble_eq_true rfl) dX12_init_348 (fun H hz1 hW hS => ?_)
  have hz : H.size = ad 41 := hz1.trans ((congrArg (· + 1) hz).trans (had 1 _).symm)
  have hW : z_W _ A (shSM80, ad, ISM51, z_J0, (PSM79 ad)) H := hW
  refine z_putF (T := TX12) (N := 96) (ci := 12) (i := 0) (v := .ref (ad 40)) (I1 := ISM51) (J1 := z_J0) (P1 := (PSM81 ad)) hx hb hts zi_X12_init_X12 tyX12 tyX12_ok nmX12 hown hK hW hS hs_shSM80_0 rfl 63 (by decide) (hts (.fieldLink RX12 136 "PetrolBoardModel" "pourJudged" "[I") (List.mem_of_getElem? (i := 50) rfl)) (fun _ h => h) rfl hname rfl rfl rfl (by first | rfl | exact congrArg _ z_up_s) (fun a b h ty => z_vP h ty) dX12_init_350 (fun H locs hz1 hW hS => ?_)
  have hz : H.size = ad 41 := hz1.trans hz
  refine lv_aload_n hx hb dX12_init_353 rfl (lv_at hl 0 rfl) ?_
  refine lv_sipush (v := 300) hx hb dX12_init_354 (by decide) ?_
  refine z_newa 41 ad (atype := .int) (ty := .int) (N' := 300) hx hb (hts (.arrayClass .int) (List.mem_of_getElem? (i := 4) rfl)) rfl hK (by simp [z_tys]) hW hS hA hz.symm (fun _ _ => rfl) (fun _ => rfl) (by decide) rfl (Nat.le_of_ble_eq_true rfl) (Nat.le_of_ble_eq_true rfl) (Nat.le_of_ble_eq_true rfl) dX12_init_357 (fun H hz1 hW hS => ?_)
  have hz : H.size = ad 42 := hz1.trans ((congrArg (· + 1) hz).trans (had 1 _).symm)
  have hW : z_W _ A (shSM82, ad, ISM51, z_J0, (PSM81 ad)) H := hW
  refine z_putF (T := TX12) (N := 96) (ci := 12) (i := 0) (v := .ref (ad 41)) (I1 := ISM51) (J1 := z_J0) (P1 := (PSM83 ad)) hx hb hts zi_X12_init_X12 tyX12 tyX12_ok nmX12 hown hK hW hS hs_shSM82_0 rfl 64 (by decide) (hts (.fieldLink RX12 139 "PetrolBoardModel" "pourCome" "[I") (List.mem_of_getElem? (i := 51) rfl)) (fun _ h => h) rfl hname rfl rfl rfl (by first | rfl | exact congrArg _ z_up_s) (fun a b h ty => z_vP h ty) dX12_init_359 (fun H locs hz1 hW hS => ?_)
  have hz : H.size = ad 42 := hz1.trans hz
  refine lv_aload_n hx hb dX12_init_362 rfl (lv_at hl 0 rfl) ?_
  refine lv_sipush (v := 300) hx hb dX12_init_363 (by decide) ?_
  refine z_newa 42 ad (atype := .boolean) (ty := .boolean) (N' := 300) hx hb (hts (.arrayClass .boolean) (List.mem_of_getElem? (i := 42) rfl)) rfl hK (by simp [z_tys]) hW hS hA hz.symm (fun _ _ => rfl) (fun _ => rfl) (by decide) rfl (Nat.le_of_ble_eq_true rfl) (Nat.le_of_ble_eq_true rfl) (Nat.le_of_ble_eq_true rfl) dX12_init_366 (fun H hz1 hW hS => ?_)
  have hz : H.size = ad 43 := hz1.trans ((congrArg (· + 1) hz).trans (had 1 _).symm)
  have hW : z_W _ A (shSM84, ad, ISM51, z_J0, (PSM83 ad)) H := hW
  refine z_putF (T := TX12) (N := 96) (ci := 12) (i := 0) (v := .ref (ad 42)) (I1 := ISM51) (J1 := z_J0) (P1 := (PSM85 ad)) hx hb hts zi_X12_init_X12 tyX12 tyX12_ok nmX12 hown hK hW hS hs_shSM84_0 rfl 65 (by decide) (hts (.fieldLink RX12 142 "PetrolBoardModel" "pourDyed" "[Z") (List.mem_of_getElem? (i := 52) rfl)) (fun _ h => h) rfl hname rfl rfl rfl (by first | rfl | exact congrArg _ z_up_s) (fun a b h ty => z_vP h ty) dX12_init_368 (fun H locs hz1 hW hS => ?_)
  have hz : H.size = ad 43 := hz1.trans hz
  refine lv_aload_n hx hb dX12_init_371 rfl (lv_at hl 0 rfl) ?_
  refine lv_bipush (v := 10) hx hb dX12_init_372 (by decide) ?_
  refine z_newa 43 ad (atype := .int) (ty := .int) (N' := 10) hx hb (hts (.arrayClass .int) (List.mem_of_getElem? (i := 4) rfl)) rfl hK (by simp [z_tys]) hW hS hA hz.symm (fun _ _ => rfl) (fun _ => rfl) (by decide) rfl (Nat.le_of_ble_eq_true rfl) (Nat.le_of_ble_eq_true rfl) (Nat.le_of_ble_eq_true rfl) dX12_init_374 (fun H hz1 hW hS => ?_)
  have hz : H.size = ad 44 := hz1.trans ((congrArg (· + 1) hz).trans (had 1 _).symm)
  have hW : z_W _ A (shSM86, ad, ISM51, z_J0, (PSM85 ad)) H := hW
  refine z_putF (T := TX12) (N := 96) (ci := 12) (i := 0) (v := .ref (ad 43)) (I1 := ISM51) (J1 := z_J0) (P1 := (PSM87 ad)) hx hb hts zi_X12_init_X12 tyX12 tyX12_ok nmX12 hown hK hW hS hs_shSM86_0 rfl 66 (by decide) (hts (.fieldLink RX12 145 "PetrolBoardModel" "givenMany" "[I") (List.mem_of_getElem? (i := 53) rfl)) (fun _ h => h) rfl hname rfl rfl rfl (by first | rfl | exact congrArg _ z_up_s) (fun a b h ty => z_vP h ty) dX12_init_376 (fun H locs hz1 hW hS => ?_)
  have hz : H.size = ad 44 := hz1.trans hz
  refine lv_aload_n hx hb dX12_init_379 rfl (lv_at hl 0 rfl) ?_
  refine lv_bipush (v := 10) hx hb dX12_init_380 (by decide) ?_
  refine z_newa 44 ad (atype := .int) (ty := .int) (N' := 10) hx hb (hts (.arrayClass .int) (List.mem_of_getElem? (i := 4) rfl)) rfl hK (by simp [z_tys]) hW hS hA hz.symm (fun _ _ => rfl) (fun _ => rfl) (by decide) rfl (Nat.le_of_ble_eq_true rfl) (Nat.le_of_ble_eq_true rfl) (Nat.le_of_ble_eq_true rfl) dX12_init_382 (fun H hz1 hW hS => ?_)
  have hz : H.size = ad 45 := hz1.trans ((congrArg (· + 1) hz).trans (had 1 _).symm)
  have hW : z_W _ A (shSM88, ad, ISM51, z_J0, (PSM87 ad)) H := hW
  refine z_putF (T := TX12) (N := 96) (ci := 12) (i := 0) (v := .ref (ad 44)) (I1 := ISM51) (J1 := z_J0) (P1 := (PSM89 ad)) hx hb hts zi_X12_init_X12 tyX12 tyX12_ok nmX12 hown hK hW hS hs_shSM88_0 rfl 67 (by decide) (hts (.fieldLink RX12 148 "PetrolBoardModel" "givenSum" "[I") (List.mem_of_getElem? (i := 54) rfl)) (fun _ h => h) rfl hname rfl rfl rfl (by first | rfl | exact congrArg _ z_up_s) (fun a b h ty => z_vP h ty) dX12_init_384 (fun H locs hz1 hW hS => ?_)
  have hz : H.size = ad 45 := hz1.trans hz
  refine lv_aload_n hx hb dX12_init_387 rfl (lv_at hl 0 rfl) ?_
  refine lv_sipush (v := 300) hx hb dX12_init_388 (by decide) ?_
  refine z_newa 45 ad (atype := .int) (ty := .int) (N' := 300) hx hb (hts (.arrayClass .int) (List.mem_of_getElem? (i := 4) rfl)) rfl hK (by simp [z_tys]) hW hS hA hz.symm (fun _ _ => rfl) (fun _ => rfl) (by decide) rfl (Nat.le_of_ble_eq_true rfl) (Nat.le_of_ble_eq_true rfl) (Nat.le_of_ble_eq_true rfl) dX12_init_391 (fun H hz1 hW hS => ?_)
  have hz : H.size = ad 46 := hz1.trans ((congrArg (· + 1) hz).trans (had 1 _).symm)
  have hW : z_W _ A (shSM90, ad, ISM51, z_J0, (PSM89 ad)) H := hW
  refine z_putF (T := TX12) (N := 96) (ci := 12) (i := 0) (v := .ref (ad 45)) (I1 := ISM51) (J1 := z_J0) (P1 := (PSM91 ad)) hx hb hts zi_X12_init_X12 tyX12 tyX12_ok nmX12 hown hK hW hS hs_shSM90_0 rfl 68 (by decide) (hts (.fieldLink RX12 151 "PetrolBoardModel" "given" "[I") (List.mem_of_getElem? (i := 55) rfl)) (fun _ h => h) rfl hname rfl rfl rfl (by first | rfl | exact congrArg _ z_up_s) (fun a b h ty => z_vP h ty) dX12_init_393 (fun H locs hz1 hW hS => ?_)
  have hz : H.size = ad 46 := hz1.trans hz
  refine lv_aload_n hx hb dX12_init_396 rfl (lv_at hl 0 rfl) ?_
  refine lv_sipush (v := 300) hx hb dX12_init_397 (by decide) ?_
  refine z_newa 46 ad (atype := .int) (ty := .int) (N' := 300) hx hb (hts (.arrayClass .int) (List.mem_of_getElem? (i := 4) rfl)) rfl hK (by simp [z_tys]) hW hS hA hz.symm (fun _ _ => rfl) (fun _ => rfl) (by decide) rfl (Nat.le_of_ble_eq_true rfl) (Nat.le_of_ble_eq_true rfl) (Nat.le_of_ble_eq_true rfl) dX12_init_400 (fun H hz1 hW hS => ?_)
  have hz : H.size = ad 47 := hz1.trans ((congrArg (· + 1) hz).trans (had 1 _).symm)
  have hW : z_W _ A (shSM92, ad, ISM51, z_J0, (PSM91 ad)) H := hW
  refine z_putF (T := TX12) (N := 96) (ci := 12) (i := 0) (v := .ref (ad 46)) (I1 := ISM51) (J1 := z_J0) (P1 := (PSM93 ad)) hx hb hts zi_X12_init_X12 tyX12 tyX12_ok nmX12 hown hK hW hS hs_shSM92_0 rfl 69 (by decide) (hts (.fieldLink RX12 154 "PetrolBoardModel" "givenCome" "[I") (List.mem_of_getElem? (i := 56) rfl)) (fun _ h => h) rfl hname rfl rfl rfl (by first | rfl | exact congrArg _ z_up_s) (fun a b h ty => z_vP h ty) dX12_init_402 (fun H locs hz1 hW hS => ?_)
  have hz : H.size = ad 47 := hz1.trans hz
  refine lv_aload_n hx hb dX12_init_405 rfl (lv_at hl 0 rfl) ?_
  refine lv_bipush (v := 10) hx hb dX12_init_406 (by decide) ?_
  refine z_newa 47 ad (atype := .int) (ty := .int) (N' := 10) hx hb (hts (.arrayClass .int) (List.mem_of_getElem? (i := 4) rfl)) rfl hK (by simp [z_tys]) hW hS hA hz.symm (fun _ _ => rfl) (fun _ => rfl) (by decide) rfl (Nat.le_of_ble_eq_true rfl) (Nat.le_of_ble_eq_true rfl) (Nat.le_of_ble_eq_true rfl) dX12_init_408 (fun H hz1 hW hS => ?_)
  have hz : H.size = ad 48 := hz1.trans ((congrArg (· + 1) hz).trans (had 1 _).symm)
  have hW : z_W _ A (shSM94, ad, ISM51, z_J0, (PSM93 ad)) H := hW
  refine z_putF (T := TX12) (N := 96) (ci := 12) (i := 0) (v := .ref (ad 47)) (I1 := ISM51) (J1 := z_J0) (P1 := (PSM95 ad)) hx hb hts zi_X12_init_X12 tyX12 tyX12_ok nmX12 hown hK hW hS hs_shSM94_0 rfl 70 (by decide) (hts (.fieldLink RX12 157 "PetrolBoardModel" "dipMany" "[I") (List.mem_of_getElem? (i := 57) rfl)) (fun _ h => h) rfl hname rfl rfl rfl (by first | rfl | exact congrArg _ z_up_s) (fun a b h ty => z_vP h ty) dX12_init_410 (fun H locs hz1 hW hS => ?_)
  have hz : H.size = ad 48 := hz1.trans hz
  refine lv_aload_n hx hb dX12_init_413 rfl (lv_at hl 0 rfl) ?_
  refine lv_sipush (v := 300) hx hb dX12_init_414 (by decide) ?_
  refine z_newa 48 ad (atype := .int) (ty := .int) (N' := 300) hx hb (hts (.arrayClass .int) (List.mem_of_getElem? (i := 4) rfl)) rfl hK (by simp [z_tys]) hW hS hA hz.symm (fun _ _ => rfl) (fun _ => rfl) (by decide) rfl (Nat.le_of_ble_eq_true rfl) (Nat.le_of_ble_eq_true rfl) (Nat.le_of_ble_eq_true rfl) dX12_init_417 (fun H hz1 hW hS => ?_)
  have hz : H.size = ad 49 := hz1.trans ((congrArg (· + 1) hz).trans (had 1 _).symm)
  have hW : z_W _ A (shSM96, ad, ISM51, z_J0, (PSM95 ad)) H := hW
  refine z_putF (T := TX12) (N := 96) (ci := 12) (i := 0) (v := .ref (ad 48)) (I1 := ISM51) (J1 := z_J0) (P1 := (PSM97 ad)) hx hb hts zi_X12_init_X12 tyX12 tyX12_ok nmX12 hown hK hW hS hs_shSM96_0 rfl 71 (by decide) (hts (.fieldLink RX12 160 "PetrolBoardModel" "dipTold" "[I") (List.mem_of_getElem? (i := 58) rfl)) (fun _ h => h) rfl hname rfl rfl rfl (by first | rfl | exact congrArg _ z_up_s) (fun a b h ty => z_vP h ty) dX12_init_419 (fun H locs hz1 hW hS => ?_)
  have hz : H.size = ad 49 := hz1.trans hz
  refine lv_aload_n hx hb dX12_init_422 rfl (lv_at hl 0 rfl) ?_
  refine lv_sipush (v := 300) hx hb dX12_init_423 (by decide) ?_
  refine z_newa 49 ad (atype := .int) (ty := .int) (N' := 300) hx hb (hts (.arrayClass .int) (List.mem_of_getElem? (i := 4) rfl)) rfl hK (by simp [z_tys]) hW hS hA hz.symm (fun _ _ => rfl) (fun _ => rfl) (by decide) rfl (Nat.le_of_ble_eq_true rfl) (Nat.le_of_ble_eq_true rfl) (Nat.le_of_ble_eq_true rfl) dX12_init_426 (fun H hz1 hW hS => ?_)
  have hz : H.size = ad 50 := hz1.trans ((congrArg (· + 1) hz).trans (had 1 _).symm)
  have hW : z_W _ A (shSM98, ad, ISM51, z_J0, (PSM97 ad)) H := hW
  refine z_putF (T := TX12) (N := 96) (ci := 12) (i := 0) (v := .ref (ad 49)) (I1 := ISM51) (J1 := z_J0) (P1 := (PSM99 ad)) hx hb hts zi_X12_init_X12 tyX12 tyX12_ok nmX12 hown hK hW hS hs_shSM98_0 rfl 72 (by decide) (hts (.fieldLink RX12 163 "PetrolBoardModel" "dipDay" "[I") (List.mem_of_getElem? (i := 59) rfl)) (fun _ h => h) rfl hname rfl rfl rfl (by first | rfl | exact congrArg _ z_up_s) (fun a b h ty => z_vP h ty) dX12_init_428 (fun H locs hz1 hW hS => ?_)
  have hz : H.size = ad 50 := hz1.trans hz
  refine lv_aload_n hx hb dX12_init_431 rfl (lv_at hl 0 rfl) ?_
  refine lv_sipush (v := 300) hx hb dX12_init_432 (by decide) ?_
  refine z_newa 50 ad (atype := .int) (ty := .int) (N' := 300) hx hb (hts (.arrayClass .int) (List.mem_of_getElem? (i := 4) rfl)) rfl hK (by simp [z_tys]) hW hS hA hz.symm (fun _ _ => rfl) (fun _ => rfl) (by decide) rfl (Nat.le_of_ble_eq_true rfl) (Nat.le_of_ble_eq_true rfl) (Nat.le_of_ble_eq_true rfl) dX12_init_435 (fun H hz1 hW hS => ?_)
  have hz : H.size = ad 51 := hz1.trans ((congrArg (· + 1) hz).trans (had 1 _).symm)
  have hW : z_W _ A (shSM100, ad, ISM51, z_J0, (PSM99 ad)) H := hW
  refine z_putF (T := TX12) (N := 96) (ci := 12) (i := 0) (v := .ref (ad 50)) (I1 := ISM51) (J1 := z_J0) (P1 := (PSM101 ad)) hx hb hts zi_X12_init_X12 tyX12 tyX12_ok nmX12 hown hK hW hS hs_shSM100_0 rfl 73 (by decide) (hts (.fieldLink RX12 166 "PetrolBoardModel" "dipCome" "[I") (List.mem_of_getElem? (i := 60) rfl)) (fun _ h => h) rfl hname rfl rfl rfl (by first | rfl | exact congrArg _ z_up_s) (fun a b h ty => z_vP h ty) dX12_init_437 (fun H locs hz1 hW hS => ?_)
  have hz : H.size = ad 51 := hz1.trans hz
  refine lv_aload_n hx hb dX12_init_440 rfl (lv_at hl 0 rfl) ?_
  refine lv_bipush (v := 30) hx hb dX12_init_441 (by decide) ?_
  refine z_newa 51 ad (atype := .int) (ty := .int) (N' := 30) hx hb (hts (.arrayClass .int) (List.mem_of_getElem? (i := 4) rfl)) rfl hK (by simp [z_tys]) hW hS hA hz.symm (fun _ _ => rfl) (fun _ => rfl) (by decide) rfl (Nat.le_of_ble_eq_true rfl) (Nat.le_of_ble_eq_true rfl) (Nat.le_of_ble_eq_true rfl) dX12_init_443 (fun H hz1 hW hS => ?_)
  have hz : H.size = ad 52 := hz1.trans ((congrArg (· + 1) hz).trans (had 1 _).symm)
  have hW : z_W _ A (shSM102, ad, ISM51, z_J0, (PSM101 ad)) H := hW
  refine z_putF (T := TX12) (N := 96) (ci := 12) (i := 0) (v := .ref (ad 51)) (I1 := ISM51) (J1 := z_J0) (P1 := (PSM103 ad)) hx hb hts zi_X12_init_X12 tyX12 tyX12_ok nmX12 hown hK hW hS hs_shSM102_0 rfl 74 (by decide) (hts (.fieldLink RX12 169 "PetrolBoardModel" "levels" "[I") (List.mem_of_getElem? (i := 61) rfl)) (fun _ h => h) rfl hname rfl rfl rfl (by first | rfl | exact congrArg _ z_up_s) (fun a b h ty => z_vP h ty) dX12_init_445 (fun H locs hz1 hW hS => ?_)
  have hz : H.size = ad 52 := hz1.trans hz
  refine lv_aload_n hx hb dX12_init_448 rfl (lv_at hl 0 rfl) ?_
  refine lv_iconst (v := 4) hx hb dX12_init_449 (by decide) ?_
  refine z_newa 52 ad (atype := .int) (ty := .int) (N' := 4) hx hb (hts (.arrayClass .int) (List.mem_of_getElem? (i := 4) rfl)) rfl hK (by simp [z_tys]) hW hS hA hz.symm (fun _ _ => rfl) (fun _ => rfl) (by decide) rfl (Nat.le_of_ble_eq_true rfl) (Nat.le_of_ble_eq_true rfl) (Nat.le_of_ble_eq_true rfl) dX12_init_450 (fun H hz1 hW hS => ?_)
  have hz : H.size = ad 53 := hz1.trans ((congrArg (· + 1) hz).trans (had 1 _).symm)
  have hW : z_W _ A (shSM104, ad, ISM51, z_J0, (PSM103 ad)) H := hW
  refine z_putF (T := TX12) (N := 96) (ci := 12) (i := 0) (v := .ref (ad 52)) (I1 := ISM51) (J1 := z_J0) (P1 := (PSM105 ad)) hx hb hts zi_X12_init_X12 tyX12 tyX12_ok nmX12 hown hK hW hS hs_shSM104_0 rfl 76 (by decide) (hts (.fieldLink RX12 172 "PetrolBoardModel" "loadsOf" "[I") (List.mem_of_getElem? (i := 62) rfl)) (fun _ h => h) rfl hname rfl rfl rfl (by first | rfl | exact congrArg _ z_up_s) (fun a b h ty => z_vP h ty) dX12_init_452 (fun H locs hz1 hW hS => ?_)
  have hz : H.size = ad 53 := hz1.trans hz
  refine lv_aload_n hx hb dX12_init_455 rfl (lv_at hl 0 rfl) ?_
  refine lv_bipush (v := 10) hx hb dX12_init_456 (by decide) ?_
  refine z_newa 53 ad (atype := .int) (ty := .int) (N' := 10) hx hb (hts (.arrayClass .int) (List.mem_of_getElem? (i := 4) rfl)) rfl hK (by simp [z_tys]) hW hS hA hz.symm (fun _ _ => rfl) (fun _ => rfl) (by decide) rfl (Nat.le_of_ble_eq_true rfl) (Nat.le_of_ble_eq_true rfl) (Nat.le_of_ble_eq_true rfl) dX12_init_458 (fun H hz1 hW hS => ?_)
  have hz : H.size = ad 54 := hz1.trans ((congrArg (· + 1) hz).trans (had 1 _).symm)
  have hW : z_W _ A (shSM106, ad, ISM51, z_J0, (PSM105 ad)) H := hW
  refine z_putF (T := TX12) (N := 96) (ci := 12) (i := 0) (v := .ref (ad 53)) (I1 := ISM51) (J1 := z_J0) (P1 := (PSM107 ad)) hx hb hts zi_X12_init_X12 tyX12 tyX12_ok nmX12 hown hK hW hS hs_shSM106_0 rfl 77 (by decide) (hts (.fieldLink RX12 175 "PetrolBoardModel" "wantOf" "[I") (List.mem_of_getElem? (i := 63) rfl)) (fun _ h => h) rfl hname rfl rfl rfl (by first | rfl | exact congrArg _ z_up_s) (fun a b h ty => z_vP h ty) dX12_init_460 (fun H locs hz1 hW hS => ?_)
  have hz : H.size = ad 54 := hz1.trans hz
  refine lv_aload_n hx hb dX12_init_463 rfl (lv_at hl 0 rfl) ?_
  refine lv_bipush (v := 40) hx hb dX12_init_464 (by decide) ?_
  refine z_newa 54 ad (atype := .int) (ty := .int) (N' := 40) hx hb (hts (.arrayClass .int) (List.mem_of_getElem? (i := 4) rfl)) rfl hK (by simp [z_tys]) hW hS hA hz.symm (fun _ _ => rfl) (fun _ => rfl) (by decide) rfl (Nat.le_of_ble_eq_true rfl) (Nat.le_of_ble_eq_true rfl) (Nat.le_of_ble_eq_true rfl) dX12_init_466 (fun H hz1 hW hS => ?_)
  have hz : H.size = ad 55 := hz1.trans ((congrArg (· + 1) hz).trans (had 1 _).symm)
  have hW : z_W _ A (shSM108, ad, ISM51, z_J0, (PSM107 ad)) H := hW
  refine z_putF (T := TX12) (N := 96) (ci := 12) (i := 0) (v := .ref (ad 54)) (I1 := ISM51) (J1 := z_J0) (P1 := (PSM109 ad)) hx hb hts zi_X12_init_X12 tyX12 tyX12_ok nmX12 hown hK hW hS hs_shSM108_0 rfl 78 (by decide) (hts (.fieldLink RX12 178 "PetrolBoardModel" "roadOf" "[I") (List.mem_of_getElem? (i := 64) rfl)) (fun _ h => h) rfl hname rfl rfl rfl (by first | rfl | exact congrArg _ z_up_s) (fun a b h ty => z_vP h ty) dX12_init_468 (fun H locs hz1 hW hS => ?_)
  have hz : H.size = ad 55 := hz1.trans hz
  refine lv_aload_n hx hb dX12_init_471 rfl (lv_at hl 0 rfl) ?_
  refine lv_sipush (v := 256) hx hb dX12_init_472 (by decide) ?_
  refine z_newa 55 ad (atype := .int) (ty := .int) (N' := 256) hx hb (hts (.arrayClass .int) (List.mem_of_getElem? (i := 4) rfl)) rfl hK (by simp [z_tys]) hW hS hA hz.symm (fun _ _ => rfl) (fun _ => rfl) (by decide) rfl (Nat.le_of_ble_eq_true rfl) (Nat.le_of_ble_eq_true rfl) (Nat.le_of_ble_eq_true rfl) dX12_init_475 (fun H hz1 hW hS => ?_)
  have hz : H.size = ad 56 := hz1.trans ((congrArg (· + 1) hz).trans (had 1 _).symm)
  have hW : z_W _ A (shSM110, ad, ISM51, z_J0, (PSM109 ad)) H := hW
  refine z_putF (T := TX12) (N := 96) (ci := 12) (i := 0) (v := .ref (ad 55)) (I1 := ISM51) (J1 := z_J0) (P1 := (PSM111 ad)) hx hb hts zi_X12_init_X12 tyX12 tyX12_ok nmX12 hown hK hW hS hs_shSM110_0 rfl 79 (by decide) (hts (.fieldLink RX12 181 "PetrolBoardModel" "room" "[I") (List.mem_of_getElem? (i := 65) rfl)) (fun _ h => h) rfl hname rfl rfl rfl (by first | rfl | exact congrArg _ z_up_s) (fun a b h ty => z_vP h ty) dX12_init_477 (fun H locs hz1 hW hS => ?_)
  have hz : H.size = ad 56 := hz1.trans hz
  refine lv_aload_n hx hb dX12_init_480 rfl (lv_at hl 0 rfl) ?_
  refine lv_sipush (v := 256) hx hb dX12_init_481 (by decide) ?_
  refine z_newa 56 ad (atype := .int) (ty := .int) (N' := 256) hx hb (hts (.arrayClass .int) (List.mem_of_getElem? (i := 4) rfl)) rfl hK (by simp [z_tys]) hW hS hA hz.symm (fun _ _ => rfl) (fun _ => rfl) (by decide) rfl (Nat.le_of_ble_eq_true rfl) (Nat.le_of_ble_eq_true rfl) (Nat.le_of_ble_eq_true rfl) dX12_init_484 (fun H hz1 hW hS => ?_)
  have hz : H.size = ad 57 := hz1.trans ((congrArg (· + 1) hz).trans (had 1 _).symm)
  have hW : z_W _ A (shSM112, ad, ISM51, z_J0, (PSM111 ad)) H := hW
  refine z_putF (T := TX12) (N := 96) (ci := 12) (i := 0) (v := .ref (ad 56)) (I1 := ISM51) (J1 := z_J0) (P1 := (PSM113 ad)) hx hb hts zi_X12_init_X12 tyX12 tyX12_ok nmX12 hown hK hW hS hs_shSM112_0 rfl 80 (by decide) (hts (.fieldLink RX12 184 "PetrolBoardModel" "miles" "[I") (List.mem_of_getElem? (i := 66) rfl)) (fun _ h => h) rfl hname rfl rfl rfl (by first | rfl | exact congrArg _ z_up_s) (fun a b h ty => z_vP h ty) dX12_init_486 (fun H locs hz1 hW hS => ?_)
  have hz : H.size = ad 57 := hz1.trans hz
  refine lv_aload_n hx hb dX12_init_489 rfl (lv_at hl 0 rfl) ?_
  refine lv_bipush (v := 16) hx hb dX12_init_490 (by decide) ?_
  refine z_newa 57 ad (atype := .int) (ty := .int) (N' := 16) hx hb (hts (.arrayClass .int) (List.mem_of_getElem? (i := 4) rfl)) rfl hK (by simp [z_tys]) hW hS hA hz.symm (fun _ _ => rfl) (fun _ => rfl) (by decide) rfl (Nat.le_of_ble_eq_true rfl) (Nat.le_of_ble_eq_true rfl) (Nat.le_of_ble_eq_true rfl) dX12_init_492 (fun H hz1 hW hS => ?_)
  have hz : H.size = ad 58 := hz1.trans ((congrArg (· + 1) hz).trans (had 1 _).symm)
  have hW : z_W _ A (shSM114, ad, ISM51, z_J0, (PSM113 ad)) H := hW
  refine z_putF (T := TX12) (N := 96) (ci := 12) (i := 0) (v := .ref (ad 57)) (I1 := ISM51) (J1 := z_J0) (P1 := (PSM115 ad)) hx hb hts zi_X12_init_X12 tyX12 tyX12_ok nmX12 hown hK hW hS hs_shSM114_0 rfl 81 (by decide) (hts (.fieldLink RX12 187 "PetrolBoardModel" "far" "[I") (List.mem_of_getElem? (i := 67) rfl)) (fun _ h => h) rfl hname rfl rfl rfl (by first | rfl | exact congrArg _ z_up_s) (fun a b h ty => z_vP h ty) dX12_init_494 (fun H locs hz1 hW hS => ?_)
  have hz : H.size = ad 58 := hz1.trans hz
  refine lv_aload_n hx hb dX12_init_497 rfl (lv_at hl 0 rfl) ?_
  refine lv_bipush (v := 16) hx hb dX12_init_498 (by decide) ?_
  refine z_newa 58 ad (atype := .int) (ty := .int) (N' := 16) hx hb (hts (.arrayClass .int) (List.mem_of_getElem? (i := 4) rfl)) rfl hK (by simp [z_tys]) hW hS hA hz.symm (fun _ _ => rfl) (fun _ => rfl) (by decide) rfl (Nat.le_of_ble_eq_true rfl) (Nat.le_of_ble_eq_true rfl) (Nat.le_of_ble_eq_true rfl) dX12_init_500 (fun H hz1 hW hS => ?_)
  have hz : H.size = ad 59 := hz1.trans ((congrArg (· + 1) hz).trans (had 1 _).symm)
  have hW : z_W _ A (shSM116, ad, ISM51, z_J0, (PSM115 ad)) H := hW
  refine z_putF (T := TX12) (N := 96) (ci := 12) (i := 0) (v := .ref (ad 58)) (I1 := ISM51) (J1 := z_J0) (P1 := (PSM117 ad)) hx hb hts zi_X12_init_X12 tyX12 tyX12_ok nmX12 hown hK hW hS hs_shSM116_0 rfl 82 (by decide) (hts (.fieldLink RX12 190 "PetrolBoardModel" "back" "[I") (List.mem_of_getElem? (i := 68) rfl)) (fun _ h => h) rfl hname rfl rfl rfl (by first | rfl | exact congrArg _ z_up_s) (fun a b h ty => z_vP h ty) dX12_init_502 (fun H locs hz1 hW hS => ?_)
  have hz : H.size = ad 59 := hz1.trans hz
  refine lv_aload_n hx hb dX12_init_505 rfl (lv_at hl 0 rfl) ?_
  refine lv_bipush (v := 60) hx hb dX12_init_506 (by decide) ?_
  refine z_newa 59 ad (atype := .int) (ty := .int) (N' := 60) hx hb (hts (.arrayClass .int) (List.mem_of_getElem? (i := 4) rfl)) rfl hK (by simp [z_tys]) hW hS hA hz.symm (fun _ _ => rfl) (fun _ => rfl) (by decide) rfl (Nat.le_of_ble_eq_true rfl) (Nat.le_of_ble_eq_true rfl) (Nat.le_of_ble_eq_true rfl) dX12_init_508 (fun H hz1 hW hS => ?_)
  have hz : H.size = ad 60 := hz1.trans ((congrArg (· + 1) hz).trans (had 1 _).symm)
  have hW : z_W _ A (shSM118, ad, ISM51, z_J0, (PSM117 ad)) H := hW
  refine z_putF (T := TX12) (N := 96) (ci := 12) (i := 0) (v := .ref (ad 59)) (I1 := ISM51) (J1 := z_J0) (P1 := (PSM119 ad)) hx hb hts zi_X12_init_X12 tyX12 tyX12_ok nmX12 hown hK hW hS hs_shSM118_0 rfl 84 (by decide) (hts (.fieldLink RX12 193 "PetrolBoardModel" "jWho" "[I") (List.mem_of_getElem? (i := 69) rfl)) (fun _ h => h) rfl hname rfl rfl rfl (by first | rfl | exact congrArg _ z_up_s) (fun a b h ty => z_vP h ty) dX12_init_510 (fun H locs hz1 hW hS => ?_)
  have hz : H.size = ad 60 := hz1.trans hz
  refine lv_aload_n hx hb dX12_init_513 rfl (lv_at hl 0 rfl) ?_
  refine lv_bipush (v := 60) hx hb dX12_init_514 (by decide) ?_
  refine z_newa 60 ad (atype := .int) (ty := .int) (N' := 60) hx hb (hts (.arrayClass .int) (List.mem_of_getElem? (i := 4) rfl)) rfl hK (by simp [z_tys]) hW hS hA hz.symm (fun _ _ => rfl) (fun _ => rfl) (by decide) rfl (Nat.le_of_ble_eq_true rfl) (Nat.le_of_ble_eq_true rfl) (Nat.le_of_ble_eq_true rfl) dX12_init_516 (fun H hz1 hW hS => ?_)
  have hz : H.size = ad 61 := hz1.trans ((congrArg (· + 1) hz).trans (had 1 _).symm)
  have hW : z_W _ A (shSM120, ad, ISM51, z_J0, (PSM119 ad)) H := hW
  refine z_putF (T := TX12) (N := 96) (ci := 12) (i := 0) (v := .ref (ad 60)) (I1 := ISM51) (J1 := z_J0) (P1 := (PSM121 ad)) hx hb hts zi_X12_init_X12 tyX12 tyX12_ok nmX12 hown hK hW hS hs_shSM120_0 rfl 85 (by decide) (hts (.fieldLink RX12 196 "PetrolBoardModel" "jMiles" "[I") (List.mem_of_getElem? (i := 70) rfl)) (fun _ h => h) rfl hname rfl rfl rfl (by first | rfl | exact congrArg _ z_up_s) (fun a b h ty => z_vP h ty) dX12_init_518 (fun H locs hz1 hW hS => ?_)
  have hz : H.size = ad 61 := hz1.trans hz
  refine lv_aload_n hx hb dX12_init_521 rfl (lv_at hl 0 rfl) ?_
  refine lv_bipush (v := 60) hx hb dX12_init_522 (by decide) ?_
  refine z_newa 61 ad (atype := .int) (ty := .int) (N' := 60) hx hb (hts (.arrayClass .int) (List.mem_of_getElem? (i := 4) rfl)) rfl hK (by simp [z_tys]) hW hS hA hz.symm (fun _ _ => rfl) (fun _ => rfl) (by decide) rfl (Nat.le_of_ble_eq_true rfl) (Nat.le_of_ble_eq_true rfl) (Nat.le_of_ble_eq_true rfl) dX12_init_524 (fun H hz1 hW hS => ?_)
  have hz : H.size = ad 62 := hz1.trans ((congrArg (· + 1) hz).trans (had 1 _).symm)
  have hW : z_W _ A (shSM122, ad, ISM51, z_J0, (PSM121 ad)) H := hW
  refine z_putF (T := TX12) (N := 96) (ci := 12) (i := 0) (v := .ref (ad 61)) (I1 := ISM51) (J1 := z_J0) (P1 := (PSM123 ad)) hx hb hts zi_X12_init_X12 tyX12 tyX12_ok nmX12 hown hK hW hS hs_shSM122_0 rfl 86 (by decide) (hts (.fieldLink RX12 199 "PetrolBoardModel" "jPeople" "[I") (List.mem_of_getElem? (i := 71) rfl)) (fun _ h => h) rfl hname rfl rfl rfl (by first | rfl | exact congrArg _ z_up_s) (fun a b h ty => z_vP h ty) dX12_init_526 (fun H locs hz1 hW hS => ?_)
  have hz : H.size = ad 62 := hz1.trans hz
  refine lv_aload_n hx hb dX12_init_529 rfl (lv_at hl 0 rfl) ?_
  refine lv_bipush (v := 60) hx hb dX12_init_530 (by decide) ?_
  refine z_newa 62 ad (atype := .int) (ty := .int) (N' := 60) hx hb (hts (.arrayClass .int) (List.mem_of_getElem? (i := 4) rfl)) rfl hK (by simp [z_tys]) hW hS hA hz.symm (fun _ _ => rfl) (fun _ => rfl) (by decide) rfl (Nat.le_of_ble_eq_true rfl) (Nat.le_of_ble_eq_true rfl) (Nat.le_of_ble_eq_true rfl) dX12_init_532 (fun H hz1 hW hS => ?_)
  have hz : H.size = ad 63 := hz1.trans ((congrArg (· + 1) hz).trans (had 1 _).symm)
  have hW : z_W _ A (shSM124, ad, ISM51, z_J0, (PSM123 ad)) H := hW
  refine z_putF (T := TX12) (N := 96) (ci := 12) (i := 0) (v := .ref (ad 62)) (I1 := ISM51) (J1 := z_J0) (P1 := (PSM125 ad)) hx hb hts zi_X12_init_X12 tyX12 tyX12_ok nmX12 hown hK hW hS hs_shSM124_0 rfl 87 (by decide) (hts (.fieldLink RX12 202 "PetrolBoardModel" "jReason" "[I") (List.mem_of_getElem? (i := 72) rfl)) (fun _ h => h) rfl hname rfl rfl rfl (by first | rfl | exact congrArg _ z_up_s) (fun a b h ty => z_vP h ty) dX12_init_534 (fun H locs hz1 hW hS => ?_)
  have hz : H.size = ad 63 := hz1.trans hz
  refine lv_aload_n hx hb dX12_init_537 rfl (lv_at hl 0 rfl) ?_
  refine lv_bipush (v := 60) hx hb dX12_init_538 (by decide) ?_
  refine z_newa 63 ad (atype := .int) (ty := .int) (N' := 60) hx hb (hts (.arrayClass .int) (List.mem_of_getElem? (i := 4) rfl)) rfl hK (by simp [z_tys]) hW hS hA hz.symm (fun _ _ => rfl) (fun _ => rfl) (by decide) rfl (Nat.le_of_ble_eq_true rfl) (Nat.le_of_ble_eq_true rfl) (Nat.le_of_ble_eq_true rfl) dX12_init_540 (fun H hz1 hW hS => ?_)
  have hz : H.size = ad 64 := hz1.trans ((congrArg (· + 1) hz).trans (had 1 _).symm)
  have hW : z_W _ A (shSM126, ad, ISM51, z_J0, (PSM125 ad)) H := hW
  refine z_putF (T := TX12) (N := 96) (ci := 12) (i := 0) (v := .ref (ad 63)) (I1 := ISM51) (J1 := z_J0) (P1 := (PSM127 ad)) hx hb hts zi_X12_init_X12 tyX12 tyX12_ok nmX12 hown hK hW hS hs_shSM126_0 rfl 88 (by decide) (hts (.fieldLink RX12 205 "PetrolBoardModel" "jDay" "[I") (List.mem_of_getElem? (i := 73) rfl)) (fun _ h => h) rfl hname rfl rfl rfl (by first | rfl | exact congrArg _ z_up_s) (fun a b h ty => z_vP h ty) dX12_init_542 (fun H locs hz1 hW hS => ?_)
  have hz : H.size = ad 64 := hz1.trans hz
  refine lv_aload_n hx hb dX12_init_545 rfl (lv_at hl 0 rfl) ?_
  refine lv_bipush (v := 60) hx hb dX12_init_546 (by decide) ?_
  refine z_newa 64 ad (atype := .int) (ty := .int) (N' := 60) hx hb (hts (.arrayClass .int) (List.mem_of_getElem? (i := 4) rfl)) rfl hK (by simp [z_tys]) hW hS hA hz.symm (fun _ _ => rfl) (fun _ => rfl) (by decide) rfl (Nat.le_of_ble_eq_true rfl) (Nat.le_of_ble_eq_true rfl) (Nat.le_of_ble_eq_true rfl) dX12_init_548 (fun H hz1 hW hS => ?_)
  have hz : H.size = ad 65 := hz1.trans ((congrArg (· + 1) hz).trans (had 1 _).symm)
  have hW : z_W _ A (shSM128, ad, ISM51, z_J0, (PSM127 ad)) H := hW
  refine z_putF (T := TX12) (N := 96) (ci := 12) (i := 0) (v := .ref (ad 64)) (I1 := ISM51) (J1 := z_J0) (P1 := (PSM129 ad)) hx hb hts zi_X12_init_X12 tyX12 tyX12_ok nmX12 hown hK hW hS hs_shSM128_0 rfl 89 (by decide) (hts (.fieldLink RX12 208 "PetrolBoardModel" "jWay" "[I") (List.mem_of_getElem? (i := 74) rfl)) (fun _ h => h) rfl hname rfl rfl rfl (by first | rfl | exact congrArg _ z_up_s) (fun a b h ty => z_vP h ty) dX12_init_550 (fun H locs hz1 hW hS => ?_)
  have hz : H.size = ad 65 := hz1.trans hz
  refine lv_aload_n hx hb dX12_init_553 rfl (lv_at hl 0 rfl) ?_
  refine lv_bipush (v := 60) hx hb dX12_init_554 (by decide) ?_
  refine z_newa 65 ad (atype := .int) (ty := .int) (N' := 60) hx hb (hts (.arrayClass .int) (List.mem_of_getElem? (i := 4) rfl)) rfl hK (by simp [z_tys]) hW hS hA hz.symm (fun _ _ => rfl) (fun _ => rfl) (by decide) rfl (Nat.le_of_ble_eq_true rfl) (Nat.le_of_ble_eq_true rfl) (Nat.le_of_ble_eq_true rfl) dX12_init_556 (fun H hz1 hW hS => ?_)
  have hz : H.size = ad 66 := hz1.trans ((congrArg (· + 1) hz).trans (had 1 _).symm)
  have hW : z_W _ A (shSM130, ad, ISM51, z_J0, (PSM129 ad)) H := hW
  refine z_putF (T := TX12) (N := 96) (ci := 12) (i := 0) (v := .ref (ad 65)) (I1 := ISM51) (J1 := z_J0) (P1 := (PSM131 ad)) hx hb hts zi_X12_init_X12 tyX12 tyX12_ok nmX12 hown hK hW hS hs_shSM130_0 rfl 90 (by decide) (hts (.fieldLink RX12 211 "PetrolBoardModel" "jAsked" "[I") (List.mem_of_getElem? (i := 75) rfl)) (fun _ h => h) rfl hname rfl rfl rfl (by first | rfl | exact congrArg _ z_up_s) (fun a b h ty => z_vP h ty) dX12_init_558 (fun H locs hz1 hW hS => ?_)
  have hz : H.size = ad 66 := hz1.trans hz
  refine lv_aload_n hx hb dX12_init_561 rfl (lv_at hl 0 rfl) ?_
  refine lv_bipush (v := 60) hx hb dX12_init_562 (by decide) ?_
  refine z_newa 66 ad (atype := .int) (ty := .int) (N' := 60) hx hb (hts (.arrayClass .int) (List.mem_of_getElem? (i := 4) rfl)) rfl hK (by simp [z_tys]) hW hS hA hz.symm (fun _ _ => rfl) (fun _ => rfl) (by decide) rfl (Nat.le_of_ble_eq_true rfl) (Nat.le_of_ble_eq_true rfl) (Nat.le_of_ble_eq_true rfl) dX12_init_564 (fun H hz1 hW hS => ?_)
  have hz : H.size = ad 67 := hz1.trans ((congrArg (· + 1) hz).trans (had 1 _).symm)
  have hW : z_W _ A (shSM132, ad, ISM51, z_J0, (PSM131 ad)) H := hW
  refine z_putF (T := TX12) (N := 96) (ci := 12) (i := 0) (v := .ref (ad 66)) (I1 := ISM51) (J1 := z_J0) (P1 := (PSM133 ad)) hx hb hts zi_X12_init_X12 tyX12 tyX12_ok nmX12 hown hK hW hS hs_shSM132_0 rfl 91 (by decide) (hts (.fieldLink RX12 214 "PetrolBoardModel" "jGranted" "[I") (List.mem_of_getElem? (i := 76) rfl)) (fun _ h => h) rfl hname rfl rfl rfl (by first | rfl | exact congrArg _ z_up_s) (fun a b h ty => z_vP h ty) dX12_init_566 (fun H locs hz1 hW hS => ?_)
  have hz : H.size = ad 67 := hz1.trans hz
  refine lv_aload_n hx hb dX12_init_569 rfl (lv_at hl 0 rfl) ?_
  refine lv_bipush (v := 60) hx hb dX12_init_570 (by decide) ?_
  refine z_newa 67 ad (atype := .int) (ty := .int) (N' := 60) hx hb (hts (.arrayClass .int) (List.mem_of_getElem? (i := 4) rfl)) rfl hK (by simp [z_tys]) hW hS hA hz.symm (fun _ _ => rfl) (fun _ => rfl) (by decide) rfl (Nat.le_of_ble_eq_true rfl) (Nat.le_of_ble_eq_true rfl) (Nat.le_of_ble_eq_true rfl) dX12_init_572 (fun H hz1 hW hS => ?_)
  have hz : H.size = ad 68 := hz1.trans ((congrArg (· + 1) hz).trans (had 1 _).symm)
  have hW : z_W _ A (shSM134, ad, ISM51, z_J0, (PSM133 ad)) H := hW
  refine z_putF (T := TX12) (N := 96) (ci := 12) (i := 0) (v := .ref (ad 67)) (I1 := ISM51) (J1 := z_J0) (P1 := (PSM135 ad)) hx hb hts zi_X12_init_X12 tyX12 tyX12_ok nmX12 hown hK hW hS hs_shSM134_0 rfl 92 (by decide) (hts (.fieldLink RX12 217 "PetrolBoardModel" "jFirst" "[I") (List.mem_of_getElem? (i := 77) rfl)) (fun _ h => h) rfl hname rfl rfl rfl (by first | rfl | exact congrArg _ z_up_s) (fun a b h ty => z_vP h ty) dX12_init_574 (fun H locs hz1 hW hS => ?_)
  have hz : H.size = ad 68 := hz1.trans hz
  refine lv_aload_n hx hb dX12_init_577 rfl (lv_at hl 0 rfl) ?_
  refine lv_bipush (v := 12) hx hb dX12_init_578 (by decide) ?_
  refine z_newa 68 ad (atype := .int) (ty := .int) (N' := 12) hx hb (hts (.arrayClass .int) (List.mem_of_getElem? (i := 4) rfl)) rfl hK (by simp [z_tys]) hW hS hA hz.symm (fun _ _ => rfl) (fun _ => rfl) (by decide) rfl (Nat.le_of_ble_eq_true rfl) (Nat.le_of_ble_eq_true rfl) (Nat.le_of_ble_eq_true rfl) dX12_init_580 (fun H hz1 hW hS => ?_)
  have hz : H.size = ad 69 := hz1.trans ((congrArg (· + 1) hz).trans (had 1 _).symm)
  have hW : z_W _ A (shSM136, ad, ISM51, z_J0, (PSM135 ad)) H := hW
  refine z_putF (T := TX12) (N := 96) (ci := 12) (i := 0) (v := .ref (ad 68)) (I1 := ISM51) (J1 := z_J0) (P1 := (PSM137 ad)) hx hb hts zi_X12_init_X12 tyX12 tyX12_ok nmX12 hown hK hW hS hs_shSM136_0 rfl 93 (by decide) (hts (.fieldLink RX12 220 "PetrolBoardModel" "pool" "[I") (List.mem_of_getElem? (i := 78) rfl)) (fun _ h => h) rfl hname rfl rfl rfl (by first | rfl | exact congrArg _ z_up_s) (fun a b h ty => z_vP h ty) dX12_init_582 (fun H locs hz1 hW hS => ?_)
  have hz : H.size = ad 69 := hz1.trans hz
  refine lv_aload_n hx hb dX12_init_585 rfl (lv_at hl 0 rfl) ?_
  refine lv_bipush (v := 30) hx hb dX12_init_586 (by decide) ?_
  refine z_newa 69 ad (atype := .int) (ty := .int) (N' := 30) hx hb (hts (.arrayClass .int) (List.mem_of_getElem? (i := 4) rfl)) rfl hK (by simp [z_tys]) hW hS hA hz.symm (fun _ _ => rfl) (fun _ => rfl) (by decide) rfl (Nat.le_of_ble_eq_true rfl) (Nat.le_of_ble_eq_true rfl) (Nat.le_of_ble_eq_true rfl) dX12_init_588 (fun H hz1 hW hS => ?_)
  have hz : H.size = ad 70 := hz1.trans ((congrArg (· + 1) hz).trans (had 1 _).symm)
  have hW : z_W _ A (shSM138, ad, ISM51, z_J0, (PSM137 ad)) H := hW
  refine z_putF (T := TX12) (N := 96) (ci := 12) (i := 0) (v := .ref (ad 69)) (I1 := ISM51) (J1 := z_J0) (P1 := (PSM139 ad)) hx hb hts zi_X12_init_X12 tyX12 tyX12_ok nmX12 hown hK hW hS hs_shSM138_0 rfl 94 (by decide) (hts (.fieldLink RX12 223 "PetrolBoardModel" "deal" "[I") (List.mem_of_getElem? (i := 79) rfl)) (fun _ h => h) rfl hname rfl rfl rfl (by first | rfl | exact congrArg _ z_up_s) (fun a b h ty => z_vP h ty) dX12_init_590 (fun H locs hz1 hW hS => ?_)
  have hz : H.size = ad 70 := hz1.trans hz
  refine lv_aload_n hx hb dX12_init_593 rfl (lv_at hl 0 rfl) ?_
  refine lv_bipush (v := 30) hx hb dX12_init_594 (by decide) ?_
  refine z_newa 70 ad (atype := .boolean) (ty := .boolean) (N' := 30) hx hb (hts (.arrayClass .boolean) (List.mem_of_getElem? (i := 42) rfl)) rfl hK (by simp [z_tys]) hW hS hA hz.symm (fun _ _ => rfl) (fun _ => rfl) (by decide) rfl (Nat.le_of_ble_eq_true rfl) (Nat.le_of_ble_eq_true rfl) (Nat.le_of_ble_eq_true rfl) dX12_init_596 (fun H hz1 hW hS => ?_)
  have hz : H.size = ad 71 := hz1.trans ((congrArg (· + 1) hz).trans (had 1 _).symm)
  have hW : z_W _ A (shSM140, ad, ISM51, z_J0, (PSM139 ad)) H := hW
  refine z_putF (T := TX12) (N := 96) (ci := 12) (i := 0) (v := .ref (ad 70)) (I1 := ISM51) (J1 := z_J0) (P1 := (PSM141 ad)) hx hb hts zi_X12_init_X12 tyX12 tyX12_ok nmX12 hown hK hW hS hs_shSM140_0 rfl 95 (by decide) (hts (.fieldLink RX12 226 "PetrolBoardModel" "isDealt" "[Z") (List.mem_of_getElem? (i := 80) rfl)) (fun _ h => h) rfl hname rfl rfl rfl (by first | rfl | exact congrArg _ z_up_s) (fun a b h ty => z_vP h ty) dX12_init_598 (fun H locs hz1 hW hS => ?_)
  have hz : H.size = ad 71 := hz1.trans hz
  exact z_cret hx hb hr hK hS (Nat.le_of_ble_eq_true rfl) (Nat.le_of_ble_eq_true rfl) hlocks dX12_init_601 (hz.trans ((had 70 1).trans (congrArg (· + 70) hz0.symm))) hW
end
section
theorem z_outer (c : ClassId) (N h0 : Nat) : ∀ i : Nat, Jvm.Free.Multi.outerC c N h0 i = arrV c N (fun j => va_rf (if j < i then some (h0 + 1 + j) else none))
  | 0 => by
    show ({ cls := c, slots := Array.replicate N .null, vm := .none } : Cell) = _
    rw [arrV_new]
    refine congrArg (arrV c N) (funext fun j => ?_)
    simp [va_rf]
  | i + 1 => by
    show (Jvm.Free.Multi.outerC c N h0 i).setSlot i (.ref (h0 + 1 + i)) = _
    rw [z_outer c N h0 i, arrV_store]
    refine congrArg (arrV c N) (funext fun j => ?_)
    by_cases e : j = i
    · subst e
      simp [updV, va_rf]
    · by_cases h : j < i
      · simp [updV, e, h, Nat.lt_succ_of_lt h]
      · simp [updV, e, h, show ¬ j < i + 1 by omega]
section ZN
variable {p : Program} {l : Launch} {e : Env} {R : Room} {s : State} {m : MethodId} {args : Array Value} {below : List Frame} {meth : Method} {c : Code} {H : Heap} {locs : List Loc} {cells slots : Nat} {Q : State → Prop}
variable {cc : ByteArray} {pc : Nat} {ls : Array Slot} {rest : List Value} {G : z_G} {A : Nat → Prop} {H0 : Heap} {sh : Nat → Option z_S} {ad : Nat → Nat} {I : z_I} {J : z_J} {P : z_P}
/-- new int[n][k]: the outer array is cell i, the inner ones those behind it -/
theorem z_mna (i : Nat) (hexec : p.tables.exec = Jvm.exec) (hb : c.code = cc) {own : String} {index : Nat} (hown : s.vm.findClass own = some m.cls) (hclink : (Cond.classLink own index "[[I").before args s = true) (harr : (Cond.arrayClass .int).before args s = true)
    (hK : z_K G s) (hW : z_W G A (sh, ad, I, J, P) H) (hS : va_S A H0 H locs) (hA : ∀ q : Nat, H0.size ≤ q → A q) (had : ∀ k i, ad (i + k) = ad i + k) (h1 : ad i = H.size) {n k : Int32} {N' K' : Nat} (hv : ∀ a b, i < a → I a b = 0) (hp : ∀ b, P i b = none) (hn : ¬ n < 0) (hk : ¬ k < 0) (hN : n.toNatClampNeg = N') (hM : k.toNatClampNeg = K')
    (hb1 : N' * 4 ≤ 536870912) (hb2 : K' * componentBytes .int ≤ 536870912) (hb3 : K' ≤ 536870912) (hcells : cells + (1 + N') ≤ R.cells) (hslots : slots + (N' + N' * K') ≤ R.slots) (hdg : decode cc pc = .ok (.multianewarray index 2, 4))
    (kk : ∀ (H1 : Heap), H1.size = H.size + (1 + N') → z_W G A (z_shr (z_sh sh i (.inl (.array .int, N'))) i K' N', ad, I, J, z_pr P i ad) H1 → va_S A H0 H1 locs → W p l e R s m args below meth c H1 locs (cells + (1 + N')) (slots + (N' + N' * K')) Q (F0 m (pc + 4) ls (.ref (ad i) :: rest))) : W p l e R s m args below meth c H locs cells slots Q (F0 m pc ls (.int k :: .int n :: rest)) := by
  subst hN
  subst hM
  intro T hT Xs
  obtain ⟨vm₁, cA, comp, -, fA, fC, hO, -, X', step⟩ := Xs.multianewarray2F hexec hown hclink (hK.2.2.2.2.use) harr (g := F0 m pc ls (.int k :: .int n :: rest)) rfl (by rw [hb]; exact hdg) rfl hn hk hb1 hb2 hb3 rfl rfl hcells hslots
  have hcy : s.vm.findClass (FieldType.array .int).toString = some (G.2 .int) := (hK.2.1 .int (by simp [z_tys])).2
  have ec : some (G.2 .int) = some comp := hcy.symm.trans fC
  cases ec
  have hcA : G.2 (.array .int) = cA := Option.some.inj (((hK.2.1 (.array .int) (by simp [z_tys])).2).symm.trans fA)
  generalize hF : Jvm.Free.Multi.fill (T.setVm vm₁) cA (G.2 .int) n.toNatClampNeg k.toNatClampNeg (defaultValue .int) n.toNatClampNeg = F at X' step
  have hTh : (T.setVm vm₁).heap = H := hT
  obtain ⟨f1, f2, -, -⟩ := Jvm.Free.Multi.fill_facts (T.setVm vm₁) cA (G.2 .int) n.toNatClampNeg k.toNatClampNeg (defaultValue .int) n.toNatClampNeg
  rw [hF, hTh] at f1 f2
  have hold : ∀ x : Nat, x < H.size → F.heap[x]? = H[x]? := fun x hx => by
    have := Jvm.Free.Multi.fill_old (T.setVm vm₁) cA (G.2 .int) n.toNatClampNeg k.toNatClampNeg (defaultValue .int) (a := x) (by rw [hTh]; exact hx) n.toNatClampNeg
    rw [hF, hTh] at this
    exact this
  have hrow : ∀ j : Nat, j < n.toNatClampNeg → F.heap[H.size + 1 + j]? = some (Jvm.Free.Multi.innerC (G.2 .int) k.toNatClampNeg (defaultValue .int)) := fun j hj => by
    have := Jvm.Free.Multi.fill_inner (T.setVm vm₁) cA (G.2 .int) n.toNatClampNeg k.toNatClampNeg (defaultValue .int) n.toNatClampNeg j hj
    rw [hF, hTh] at this
    exact this
  have hz : Jvm.Free.Multi.innerC (G.2 .int) k.toNatClampNeg (defaultValue .int) = arrV (G.2 .int) k.toNatClampNeg (fun _ => .int 0) := arrV_new _ _ _
  have hsz : F.heap.size = H.size + (1 + n.toNatClampNeg) := by
    rw [f1]
    omega
  have w0 : z_W G A (sh, ad, I, J, z_pr P i ad) F.heap := by
    refine ⟨fun j x hj => ?_, hW.2.1, hW.2.2⟩
    have hl := hW.lt (i := j) (z_ne hj)
    refine (hW.1 j x hj).kept rfl (hold _ hl) (fun ty b => ?_)
    have hji : j ≠ i := fun e => by
      have hl' : ad j < H.size := hl
      rw [e, h1] at hl'
      omega
    cases ty <;> simp [z_v, z_pr, hji]
  have w1 : z_W G A (z_sh sh i (.inl (.array .int, n.toNatClampNeg)), ad, I, J, z_pr P i ad) F.heap := by
    refine w0.add2 (fun j hj => by rw [h1]; exact hW.lt hj) (by rw [h1]; exact hA _ hS.1) ?_
    show F.heap[ad i]? = some (arrV (G.2 (.array .int)) n.toNatClampNeg _)
    rw [h1, f2, hcA, z_outer]
    congr 1
    show ({ cls := cA, slots := Array.ofFn (n := n.toNatClampNeg) fun j => va_rf (if j.val < n.toNatClampNeg then some (H.size + 1 + j.val) else none), vm := .none } : Cell) = { cls := cA, slots := Array.ofFn (n := n.toNatClampNeg) fun j => z_v I J (z_pr P i ad) (.array .int) i j.val, vm := .none }
    congr 2
    funext j
    simp only [z_v, z_pr, if_pos, j.isLt]
    rw [show i + 1 + j.val = i + (1 + j.val) by omega, had (1 + j.val) i, h1, Nat.add_assoc]
  have wr : ∀ t : Nat, t ≤ n.toNatClampNeg → z_W G A (z_shr (z_sh sh i (.inl (.array .int, n.toNatClampNeg))) i k.toNatClampNeg t, ad, I, J, z_pr P i ad) F.heap ∧ ∀ j, z_shr (z_sh sh i (.inl (.array .int, n.toNatClampNeg))) i k.toNatClampNeg t j ≠ none → ad j < ad (i + 1 + t) := by
    intro t
    induction t with
    | zero =>
      intro _
      refine ⟨w1, fun j hj => ?_⟩
      have h3 : ad (i + 1 + 0) = ad i + 1 := by rw [Nat.add_zero]; exact had 1 i
      rw [h3, h1]
      by_cases e : j = i
      · rw [e, h1]; omega
      · have h4 : sh j ≠ none := by simpa [z_shr, z_sh, e] using hj
        have := hW.lt (i := j) h4
        have h5 : ad j < H.size := this
        omega
    | succ t ih =>
      intro ht
      obtain ⟨w2, l2⟩ := ih (by omega)
      have h3 : ad (i + 1 + t) = H.size + 1 + t := by rw [Nat.add_assoc, had, h1, Nat.add_assoc]
      have h4 : ad (i + 1 + (t + 1)) = H.size + 1 + t + 1 := by rw [Nat.add_assoc, had, h1]; omega
      refine ⟨w2.add2 l2 (by rw [h3]; exact hA _ (by have := hS.1; omega)) ?_, fun j hj => ?_⟩
      · show F.heap[ad (i + 1 + t)]? = some (arrV (G.2 .int) k.toNatClampNeg _)
        rw [h3, hrow t (by omega), hz]
        congr 2
        funext b
        show Value.int 0 = Value.int (I (i + 1 + t) b)
        rw [hv _ _ (by omega)]
      · by_cases e : j = i + 1 + t
        · rw [e, h3, h4]; omega
        · have h5 : z_shr (z_sh sh i (.inl (.array .int, n.toNatClampNeg))) i k.toNatClampNeg t j ≠ none := by simpa [z_shr, z_sh, e] using hj
          have := l2 j h5
          omega
  obtain ⟨t, a1, b1⟩ := kk F.heap hsz (wr _ (Nat.le_refl _)).1 (z_Sn hS (by omega) hold) F rfl (by first | exact X' | (rw [← Nat.add_assoc slots]; exact X') | simpa [Nat.add_assoc] using X')
  refine ⟨t, step t ?_, b1⟩
  have e : T.heap.size = ad i := by rw [hT, h1]
  rw [e]
  exact a1
end ZN
end
