def RX0 : String := "RoamBooks$Account"
def TX0 : u_T := fun k => match k with
  | 0 => ("RoamBooks$Account", "records", "Ljava/util/ArrayList;", true)
  | 1 => ("RoamBooks$Account", "files", "I", false)
  | _ => ("RoamBooks$Account", "filesTaken", "I", false)
def tyX0 : Nat → FieldType := fun k => match k with
  | 0 => .object "java/util/ArrayList"
  | 1 => .int
  | _ => .int
theorem nmX0 : ∀ a, a < 3 → ∀ b, b < 3 → a ≠ b → (TX0 a).2.1 ≠ (TX0 b).2.1 := by decide +kernel
theorem tyX0_ok : ∀ k, k < 3 → parseFieldDescriptor (TX0 k).2.2.1 = some (tyX0 k) := by decide +kernel
abbrev cX0_init : ByteArray := prog_2_method_1_code
def yX0_init : MethodName := ⟨RX0, "<init>", "()V"⟩
abbrev cX0_minutesThatAre : ByteArray := prog_2_method_2_code
def yX0_minutesThatAre : MethodName := ⟨RX0, "minutesThatAre", "(I)I"⟩
abbrev cX0_hasUnfiled : ByteArray := prog_2_method_3_code
def yX0_hasUnfiled : MethodName := ⟨RX0, "hasUnfiled", "()Z"⟩
abbrev cX0_fileTheRest : ByteArray := prog_2_method_4_code
def yX0_fileTheRest : MethodName := ⟨RX0, "fileTheRest", "()I"⟩
abbrev cX0_takeNextFile : ByteArray := prog_2_method_5_code
def yX0_takeNextFile : MethodName := ⟨RX0, "takeNextFile", "(I)I"⟩
abbrev cX0_owed : ByteArray := prog_2_method_6_code
def yX0_owed : MethodName := ⟨RX0, "owed", "()I"⟩
abbrev cX0_owedFileByFile : ByteArray := prog_2_method_7_code
def yX0_owedFileByFile : MethodName := ⟨RX0, "owedFileByFile", "()I"⟩
abbrev cX0_minutesTakenIn : ByteArray := prog_2_method_8_code
def yX0_minutesTakenIn : MethodName := ⟨RX0, "minutesTakenIn", "(I)I"⟩
abbrev cX0_owedIn : ByteArray := prog_2_method_9_code
def yX0_owedIn : MethodName := ⟨RX0, "owedIn", "(II)I"⟩
def RX1 : String := "RoamBooks$Agreement"
def TX1 : u_T := fun k => match k with
  | 0 => ("RoamBooks$Agreement", "home", "I", true)
  | 1 => ("RoamBooks$Agreement", "visited", "I", true)
  | 2 => ("RoamBooks$Agreement", "from", "I", true)
  | 3 => ("RoamBooks$Agreement", "to", "I", true)
  | 4 => ("RoamBooks$Agreement", "price", "I", true)
  | 5 => ("RoamBooks$Agreement", "threshold", "I", true)
  | _ => ("RoamBooks$Agreement", "lower", "I", true)
def tyX1 : Nat → FieldType := fun k => match k with
  | 0 => .int
  | 1 => .int
  | 2 => .int
  | 3 => .int
  | 4 => .int
  | 5 => .int
  | _ => .int
theorem nmX1 : ∀ a, a < 7 → ∀ b, b < 7 → a ≠ b → (TX1 a).2.1 ≠ (TX1 b).2.1 := by decide +kernel
theorem tyX1_ok : ∀ k, k < 7 → parseFieldDescriptor (TX1 k).2.2.1 = some (tyX1 k) := by decide +kernel
abbrev cX1_init : ByteArray := prog_3_method_1_code
def yX1_init : MethodName := ⟨RX1, "<init>", "(IIIIIII)V"⟩
abbrev cX1_holds : ByteArray := prog_3_method_2_code
def yX1_holds : MethodName := ⟨RX1, "holds", "(III)Z"⟩
abbrev cX1_priceAt : ByteArray := prog_3_method_3_code
def yX1_priceAt : MethodName := ⟨RX1, "priceAt", "(I)I"⟩
def RX2 : String := "RoamBooks$Book"
def TX2 : u_T := fun k => match k with
  | _ => ("RoamBooks$Book", "contacts", "[I", true)
def tyX2 : Nat → FieldType := fun k => match k with
  | _ => .array .int
theorem nmX2 : ∀ a, a < 1 → ∀ b, b < 1 → a ≠ b → (TX2 a).2.1 ≠ (TX2 b).2.1 := by decide +kernel
theorem tyX2_ok : ∀ k, k < 1 → parseFieldDescriptor (TX2 k).2.2.1 = some (tyX2 k) := by decide +kernel
abbrev cX2_init : ByteArray := prog_4_method_1_code
def yX2_init : MethodName := ⟨RX2, "<init>", "()V"⟩
abbrev cX2_latest : ByteArray := prog_4_method_2_code
def yX2_latest : MethodName := ⟨RX2, "latest", "(I)I"⟩
abbrev cX2_has : ByteArray := prog_4_method_3_code
def yX2_has : MethodName := ⟨RX2, "has", "(I)Z"⟩
abbrev cX2_put : ByteArray := prog_4_method_4_code
def yX2_put : MethodName := ⟨RX2, "put", "(II)V"⟩
abbrev cX2_takeOut : ByteArray := prog_4_method_5_code
def yX2_takeOut : MethodName := ⟨RX2, "takeOut", "(I)V"⟩
abbrev cX2_takeOutUpTo : ByteArray := prog_4_method_6_code
def yX2_takeOutUpTo : MethodName := ⟨RX2, "takeOutUpTo", "(I)V"⟩
abbrev cX2_clear : ByteArray := prog_4_method_7_code
def yX2_clear : MethodName := ⟨RX2, "clear", "()V"⟩
abbrev cX2_count : ByteArray := prog_4_method_8_code
def yX2_count : MethodName := ⟨RX2, "count", "()I"⟩
abbrev cX2_isLine : ByteArray := prog_4_method_9_code
def yX2_isLine : MethodName := ⟨RX2, "isLine", "(I)Z"⟩
def RX3 : String := "RoamBooks$Call"
def TX3 : u_T := fun k => match k with
  | 0 => ("RoamBooks$Call", "caller", "I", true)
  | 1 => ("RoamBooks$Call", "callerPaid", "I", true)
  | 2 => ("RoamBooks$Call", "called", "I", true)
  | _ => ("RoamBooks$Call", "calledPaid", "I", true)
def tyX3 : Nat → FieldType := fun k => match k with
  | 0 => .int
  | 1 => .int
  | 2 => .int
  | _ => .int
theorem nmX3 : ∀ a, a < 4 → ∀ b, b < 4 → a ≠ b → (TX3 a).2.1 ≠ (TX3 b).2.1 := by decide +kernel
theorem tyX3_ok : ∀ k, k < 4 → parseFieldDescriptor (TX3 k).2.2.1 = some (tyX3 k) := by decide +kernel
abbrev cX3_init : ByteArray := prog_5_method_1_code
def yX3_init : MethodName := ⟨RX3, "<init>", "(IIII)V"⟩
abbrev cX3_paidBy : ByteArray := prog_5_method_2_code
def yX3_paidBy : MethodName := ⟨RX3, "paidBy", "(I)I"⟩
def RX4 : String := "RoamBooks$CallRecord"
def TX4 : u_T := fun k => match k with
  | 0 => ("RoamBooks$CallRecord", "minutes", "I", true)
  | 1 => ("RoamBooks$CallRecord", "made", "I", true)
  | 2 => ("RoamBooks$CallRecord", "agreement", "LRoamBooks$Agreement;", true)
  | 3 => ("RoamBooks$CallRecord", "state", "I", false)
  | _ => ("RoamBooks$CallRecord", "inFile", "I", false)
def tyX4 : Nat → FieldType := fun k => match k with
  | 0 => .int
  | 1 => .int
  | 2 => .object "RoamBooks$Agreement"
  | 3 => .int
  | _ => .int
theorem nmX4 : ∀ a, a < 5 → ∀ b, b < 5 → a ≠ b → (TX4 a).2.1 ≠ (TX4 b).2.1 := by decide +kernel
theorem tyX4_ok : ∀ k, k < 5 → parseFieldDescriptor (TX4 k).2.2.1 = some (tyX4 k) := by decide +kernel
abbrev cX4_init : ByteArray := prog_6_method_1_code
def yX4_init : MethodName := ⟨RX4, "<init>", "(IILRoamBooks$Agreement;)V"⟩
abbrev cX4_owed : ByteArray := prog_6_method_2_code
def yX4_owed : MethodName := ⟨RX4, "owed", "(I)I"⟩
def RX5 : String := "RoamBooks$Network"
def TX5 : u_T := fun k => match k with
  | 0 => ("RoamBooks$Network", "book", "LRoamBooks$Book;", true)
  | 1 => ("RoamBooks$Network", "dead", "Z", false)
  | 2 => ("RoamBooks$Network", "favourite", "I", false)
  | 3 => ("RoamBooks$Network", "priceAtHome", "I", false)
  | 4 => ("RoamBooks$Network", "priceAbroad", "I", false)
  | 5 => ("RoamBooks$Network", "priceCalled", "I", false)
  | _ => ("RoamBooks$Network", "noticesToLose", "I", false)
def tyX5 : Nat → FieldType := fun k => match k with
  | 0 => .object "RoamBooks$Book"
  | 1 => .boolean
  | 2 => .int
  | 3 => .int
  | 4 => .int
  | 5 => .int
  | _ => .int
theorem nmX5 : ∀ a, a < 7 → ∀ b, b < 7 → a ≠ b → (TX5 a).2.1 ≠ (TX5 b).2.1 := by decide +kernel
theorem tyX5_ok : ∀ k, k < 7 → parseFieldDescriptor (TX5 k).2.2.1 = some (tyX5 k) := by decide +kernel
abbrev cX5_init : ByteArray := prog_7_method_1_code
def yX5_init : MethodName := ⟨RX5, "<init>", "()V"⟩
def RX6 : String := "RoamBooks$Subscriber"
def TX6 : u_T := fun k => match k with
  | 0 => ("RoamBooks$Subscriber", "number", "I", true)
  | 1 => ("RoamBooks$Subscriber", "home", "I", true)
  | 2 => ("RoamBooks$Subscriber", "forbidden", "I", true)
  | 3 => ("RoamBooks$Subscriber", "place", "I", false)
  | 4 => ("RoamBooks$Subscriber", "attached", "I", false)
  | 5 => ("RoamBooks$Subscriber", "note", "I", false)
  | 6 => ("RoamBooks$Subscriber", "steered", "I", false)
  | 7 => ("RoamBooks$Subscriber", "cap", "I", false)
  | 8 => ("RoamBooks$Subscriber", "consents", "Z", false)
  | 9 => ("RoamBooks$Subscriber", "paid", "I", false)
  | _ => ("RoamBooks$Subscriber", "paidAbroad", "I", false)
def tyX6 : Nat → FieldType := fun k => match k with
  | 0 => .int
  | 1 => .int
  | 2 => .int
  | 3 => .int
  | 4 => .int
  | 5 => .int
  | 6 => .int
  | 7 => .int
  | 8 => .boolean
  | 9 => .int
  | _ => .int
theorem nmX6 : ∀ a, a < 11 → ∀ b, b < 11 → a ≠ b → (TX6 a).2.1 ≠ (TX6 b).2.1 := by decide +kernel
theorem tyX6_ok : ∀ k, k < 11 → parseFieldDescriptor (TX6 k).2.2.1 = some (tyX6 k) := by decide +kernel
abbrev cX6_init : ByteArray := prog_8_method_1_code
def yX6_init : MethodName := ⟨RX6, "<init>", "(IIII)V"⟩
abbrev cX6_isAbroad : ByteArray := prog_8_method_2_code
def yX6_isAbroad : MethodName := ⟨RX6, "isAbroad", "()Z"⟩
abbrev cX6_wouldComeAboveCap : ByteArray := prog_8_method_3_code
def yX6_wouldComeAboveCap : MethodName := ⟨RX6, "wouldComeAboveCap", "(I)Z"⟩
abbrev cX6_isWarned : ByteArray := prog_8_method_4_code
def yX6_isWarned : MethodName := ⟨RX6, "isWarned", "()Z"⟩
def RX7 : String := "RoamBooks"
def TX7 : u_T := fun k => match k with
  | 0 => ("RoamBooks", "received", "[I", true)
  | 1 => ("RoamBooks", "networks", "[LRoamBooks$Network;", true)
  | 2 => ("RoamBooks", "accounts", "[LRoamBooks$Account;", true)
  | 3 => ("RoamBooks", "agreements", "Ljava/util/ArrayList;", true)
  | 4 => ("RoamBooks", "subscribers", "Ljava/util/ArrayList;", true)
  | 5 => ("RoamBooks", "calls", "Ljava/util/ArrayList;", true)
  | _ => ("RoamBooks", "minute", "I", false)
def tyX7 : Nat → FieldType := fun k => match k with
  | 0 => .array .int
  | 1 => .array (.object "RoamBooks$Network")
  | 2 => .array (.object "RoamBooks$Account")
  | 3 => .object "java/util/ArrayList"
  | 4 => .object "java/util/ArrayList"
  | 5 => .object "java/util/ArrayList"
  | _ => .int
theorem nmX7 : ∀ a, a < 7 → ∀ b, b < 7 → a ≠ b → (TX7 a).2.1 ≠ (TX7 b).2.1 := by decide +kernel
theorem tyX7_ok : ∀ k, k < 7 → parseFieldDescriptor (TX7 k).2.2.1 = some (tyX7 k) := by decide +kernel
abbrev cX7_init : ByteArray := prog_1_method_1_code
def yX7_init : MethodName := ⟨RX7, "<init>", "()V"⟩
abbrev cX7_reach : ByteArray := prog_1_method_2_code
def yX7_reach : MethodName := ⟨RX7, "reach", "(II)I"⟩
abbrev cX7_dead : ByteArray := prog_1_method_3_code
def yX7_dead : MethodName := ⟨RX7, "dead", "(IZ)Z"⟩
abbrev cX7_agree : ByteArray := prog_1_method_4_code
def yX7_agree : MethodName := ⟨RX7, "agree", "(IIIIIII)I"⟩
abbrev cX7_steer : ByteArray := prog_1_method_5_code
def yX7_steer : MethodName := ⟨RX7, "steer", "(II)I"⟩
abbrev cX7_prices : ByteArray := prog_1_method_6_code
def yX7_prices : MethodName := ⟨RX7, "prices", "(IIII)V"⟩
abbrev cX7_lose : ByteArray := prog_1_method_7_code
def yX7_lose : MethodName := ⟨RX7, "lose", "(II)I"⟩
abbrev cX7_crash : ByteArray := prog_1_method_8_code
def yX7_crash : MethodName := ⟨RX7, "crash", "(I)I"⟩
abbrev cX7_subscriber : ByteArray := prog_1_method_9_code
def yX7_subscriber : MethodName := ⟨RX7, "subscriber", "(III)I"⟩
abbrev cX7_move : ByteArray := prog_1_method_10_code
def yX7_move : MethodName := ⟨RX7, "move", "(II)I"⟩
abbrev cX7_off : ByteArray := prog_1_method_11_code
def yX7_off : MethodName := ⟨RX7, "off", "(I)I"⟩
abbrev cX7_attach : ByteArray := prog_1_method_12_code
def yX7_attach : MethodName := ⟨RX7, "attach", "(II)I"⟩
abbrev cX7_emergency : ByteArray := prog_1_method_13_code
def yX7_emergency : MethodName := ⟨RX7, "emergency", "(I)I"⟩
abbrev cX7_where : ByteArray := prog_1_method_14_code
def yX7_where : MethodName := ⟨RX7, "where", "(I)I"⟩
abbrev cX7_contact : ByteArray := prog_1_method_15_code
def yX7_contact : MethodName := ⟨RX7, "contact", "(II)I"⟩
abbrev cX7_agrees : ByteArray := prog_1_method_16_code
def yX7_agrees : MethodName := ⟨RX7, "agrees", "(I)Z"⟩
abbrev cX7_subscriberIs : ByteArray := prog_1_method_17_code
def yX7_subscriberIs : MethodName := ⟨RX7, "subscriberIs", "(II)I"⟩
abbrev cX7_cap : ByteArray := prog_1_method_18_code
def yX7_cap : MethodName := ⟨RX7, "cap", "(IIZ)V"⟩
abbrev cX7_call : ByteArray := prog_1_method_19_code
def yX7_call : MethodName := ⟨RX7, "call", "(III)I"⟩
abbrev cX7_paidAnew : ByteArray := prog_1_method_20_code
def yX7_paidAnew : MethodName := ⟨RX7, "paidAnew", "(I)I"⟩
abbrev cX7_file : ByteArray := prog_1_method_21_code
def yX7_file : MethodName := ⟨RX7, "file", "(II)I"⟩
abbrev cX7_deliver : ByteArray := prog_1_method_22_code
def yX7_deliver : MethodName := ⟨RX7, "deliver", "(III)I"⟩
abbrev cX7_owes : ByteArray := prog_1_method_23_code
def yX7_owes : MethodName := ⟨RX7, "owes", "(II)I"⟩
abbrev cX7_owesAnew : ByteArray := prog_1_method_24_code
def yX7_owesAnew : MethodName := ⟨RX7, "owesAnew", "(II)I"⟩
abbrev cX7_recorded : ByteArray := prog_1_method_25_code
def yX7_recorded : MethodName := ⟨RX7, "recorded", "(III)I"⟩
abbrev cX7_pass : ByteArray := prog_1_method_26_code
def yX7_pass : MethodName := ⟨RX7, "pass", "(I)I"⟩
abbrev cX7_requireRange : ByteArray := prog_1_method_27_code
def yX7_requireRange : MethodName := ⟨RX7, "requireRange", "(III)V"⟩
abbrev cX7_requireDifferent : ByteArray := prog_1_method_28_code
def yX7_requireDifferent : MethodName := ⟨RX7, "requireDifferent", "(II)V"⟩
abbrev cX7_requireRoom : ByteArray := prog_1_method_29_code
def yX7_requireRoom : MethodName := ⟨RX7, "requireRoom", "(II)V"⟩
abbrev cX7_requireNetwork : ByteArray := prog_1_method_30_code
def yX7_requireNetwork : MethodName := ⟨RX7, "requireNetwork", "(I)V"⟩
abbrev cX7_requirePlace : ByteArray := prog_1_method_31_code
def yX7_requirePlace : MethodName := ⟨RX7, "requirePlace", "(I)V"⟩
abbrev cX7_networkAt : ByteArray := prog_1_method_32_code
def yX7_networkAt : MethodName := ⟨RX7, "networkAt", "(I)LRoamBooks$Network;"⟩
abbrev cX7_receivedAt : ByteArray := prog_1_method_33_code
def yX7_receivedAt : MethodName := ⟨RX7, "receivedAt", "(I)I"⟩
abbrev cX7_subscriberAt : ByteArray := prog_1_method_34_code
def yX7_subscriberAt : MethodName := ⟨RX7, "subscriberAt", "(I)LRoamBooks$Subscriber;"⟩
abbrev cX7_accountOf : ByteArray := prog_1_method_35_code
def yX7_accountOf : MethodName := ⟨RX7, "accountOf", "(II)LRoamBooks$Account;"⟩
abbrev cX7_isIn : ByteArray := prog_1_method_36_code
def yX7_isIn : MethodName := ⟨RX7, "isIn", "(II)Z"⟩
abbrev cX7_detachIfNotReceived : ByteArray := prog_1_method_37_code
def yX7_detachIfNotReceived : MethodName := ⟨RX7, "detachIfNotReceived", "(LRoamBooks$Subscriber;)V"⟩
abbrev cX7_detachAllFrom : ByteArray := prog_1_method_38_code
def yX7_detachAllFrom : MethodName := ⟨RX7, "detachAllFrom", "(I)V"⟩
abbrev cX7_agreementNow : ByteArray := prog_1_method_39_code
def yX7_agreementNow : MethodName := ⟨RX7, "agreementNow", "(II)LRoamBooks$Agreement;"⟩
abbrev cX7_whyNotUsable : ByteArray := prog_1_method_40_code
def yX7_whyNotUsable : MethodName := ⟨RX7, "whyNotUsable", "(LRoamBooks$Subscriber;I)I"⟩
abbrev cX7_isSteered : ByteArray := prog_1_method_41_code
def yX7_isSteered : MethodName := ⟨RX7, "isSteered", "(LRoamBooks$Subscriber;I)Z"⟩
abbrev cX7_makeContact : ByteArray := prog_1_method_42_code
def yX7_makeContact : MethodName := ⟨RX7, "makeContact", "(LRoamBooks$Subscriber;I)V"⟩
abbrev cX7_beginHours : ByteArray := prog_1_method_43_code
def yX7_beginHours : MethodName := ⟨RX7, "beginHours", "(II)V"⟩
abbrev cX7_beginHour : ByteArray := prog_1_method_44_code
def yX7_beginHour : MethodName := ⟨RX7, "beginHour", "(I)V"⟩
abbrev cX7_beginMonth : ByteArray := prog_1_method_45_code
def yX7_beginMonth : MethodName := ⟨RX7, "beginMonth", "()V"⟩
abbrev cX7_whyNotFound : ByteArray := prog_1_method_46_code
def yX7_whyNotFound : MethodName := ⟨RX7, "whyNotFound", "(LRoamBooks$Subscriber;LRoamBooks$Subscriber;)I"⟩
abbrev cX7_priceOfCalling : ByteArray := prog_1_method_47_code
def yX7_priceOfCalling : MethodName := ⟨RX7, "priceOfCalling", "(LRoamBooks$Subscriber;)I"⟩
abbrev cX7_priceOfBeingCalled : ByteArray := prog_1_method_48_code
def yX7_priceOfBeingCalled : MethodName := ⟨RX7, "priceOfBeingCalled", "(LRoamBooks$Subscriber;)I"⟩
abbrev cX7_settle : ByteArray := prog_1_method_49_code
def yX7_settle : MethodName := ⟨RX7, "settle", "(LRoamBooks$Subscriber;II)V"⟩
def RX8 : String := "RoamBooksModel"
def TX8 : u_T := fun k => match k with
  | _ => ("", "", "", false)
def tyX8 : Nat → FieldType := fun k => match k with
  | _ => .int
theorem nmX8 : ∀ a, a < 0 → ∀ b, b < 0 → a ≠ b → (TX8 a).2.1 ≠ (TX8 b).2.1 := by decide +kernel
theorem tyX8_ok : ∀ k, k < 0 → parseFieldDescriptor (TX8 k).2.2.1 = some (tyX8 k) := by decide +kernel
def RJx145de : String := "java/io/Serializable"
def TJx145de : u_T := fun k => match k with
  | _ => ("", "", "", false)
def tyJx145de : Nat → FieldType := fun k => match k with
  | _ => .int
theorem nmJx145de : ∀ a, a < 0 → ∀ b, b < 0 → a ≠ b → (TJx145de a).2.1 ≠ (TJx145de b).2.1 := by decide +kernel
theorem tyJx145de_ok : ∀ k, k < 0 → parseFieldDescriptor (TJx145de k).2.2.1 = some (tyJx145de k) := by decide +kernel
def RJx8e188 : String := "java/lang/Cloneable"
def TJx8e188 : u_T := fun k => match k with
  | _ => ("", "", "", false)
def tyJx8e188 : Nat → FieldType := fun k => match k with
  | _ => .int
theorem nmJx8e188 : ∀ a, a < 0 → ∀ b, b < 0 → a ≠ b → (TJx8e188 a).2.1 ≠ (TJx8e188 b).2.1 := by decide +kernel
theorem tyJx8e188_ok : ∀ k, k < 0 → parseFieldDescriptor (TJx8e188 k).2.2.1 = some (tyJx8e188 k) := by decide +kernel
def RJxab1ab : String := "java/lang/Iterable"
def TJxab1ab : u_T := fun k => match k with
  | _ => ("", "", "", false)
def tyJxab1ab : Nat → FieldType := fun k => match k with
  | _ => .int
theorem nmJxab1ab : ∀ a, a < 0 → ∀ b, b < 0 → a ≠ b → (TJxab1ab a).2.1 ≠ (TJxab1ab b).2.1 := by decide +kernel
theorem tyJxab1ab_ok : ∀ k, k < 0 → parseFieldDescriptor (TJxab1ab k).2.2.1 = some (tyJxab1ab k) := by decide +kernel
def RJ9 : String := "java/lang/Math"
def TJ9 : u_T := fun k => match k with
  | _ => ("", "", "", false)
def tyJ9 : Nat → FieldType := fun k => match k with
  | _ => .int
theorem nmJ9 : ∀ a, a < 0 → ∀ b, b < 0 → a ≠ b → (TJ9 a).2.1 ≠ (TJ9 b).2.1 := by decide +kernel
theorem tyJ9_ok : ∀ k, k < 0 → parseFieldDescriptor (TJ9 k).2.2.1 = some (tyJ9 k) := by decide +kernel
abbrev cJ9_max_7cf53 : ByteArray := prog_18_method_65_code
def yJ9_max_7cf53 : MethodName := ⟨RJ9, "max", "(II)I"⟩
abbrev cJ9_min_7cf53 : ByteArray := prog_18_method_69_code
def yJ9_min_7cf53 : MethodName := ⟨RJ9, "min", "(II)I"⟩
def RJ0 : String := "java/lang/String"
def TJ0 : u_T := fun k => match k with
  | _ => ("", "", "", false)
def tyJ0 : Nat → FieldType := fun k => match k with
  | _ => .int
theorem nmJ0 : ∀ a, a < 0 → ∀ b, b < 0 → a ≠ b → (TJ0 a).2.1 ≠ (TJ0 b).2.1 := by decide +kernel
theorem tyJ0_ok : ∀ k, k < 0 → parseFieldDescriptor (TJ0 k).2.2.1 = some (tyJ0 k) := by decide +kernel
def RJ10 : String := "java/lang/System"
def TJ10 : u_T := fun k => match k with
  | _ => ("", "", "", false)
def tyJ10 : Nat → FieldType := fun k => match k with
  | _ => .int
theorem nmJ10 : ∀ a, a < 0 → ∀ b, b < 0 → a ≠ b → (TJ10 a).2.1 ≠ (TJ10 b).2.1 := by decide +kernel
theorem tyJ10_ok : ∀ k, k < 0 → parseFieldDescriptor (TJ10 k).2.2.1 = some (tyJ10 k) := by decide +kernel
def RJxa1e45 : String := "java/util/AbstractCollection"
def TJxa1e45 : u_T := fun k => match k with
  | _ => ("", "", "", false)
def tyJxa1e45 : Nat → FieldType := fun k => match k with
  | _ => .int
theorem nmJxa1e45 : ∀ a, a < 0 → ∀ b, b < 0 → a ≠ b → (TJxa1e45 a).2.1 ≠ (TJxa1e45 b).2.1 := by decide +kernel
theorem tyJxa1e45_ok : ∀ k, k < 0 → parseFieldDescriptor (TJxa1e45 k).2.2.1 = some (tyJxa1e45 k) := by decide +kernel
abbrev cJxa1e45_init_da8c8 : ByteArray := prog_23_method_1_code
def yJxa1e45_init_da8c8 : MethodName := ⟨RJxa1e45, "<init>", "()V"⟩
def RJxc12de : String := "java/util/AbstractList"
def TJxc12de : u_T := fun k => match k with
  | _ => ("", "", "", false)
def tyJxc12de : Nat → FieldType := fun k => match k with
  | _ => .int
theorem nmJxc12de : ∀ a, a < 0 → ∀ b, b < 0 → a ≠ b → (TJxc12de a).2.1 ≠ (TJxc12de b).2.1 := by decide +kernel
theorem tyJxc12de_ok : ∀ k, k < 0 → parseFieldDescriptor (TJxc12de k).2.2.1 = some (tyJxc12de k) := by decide +kernel
abbrev cJxc12de_init_da8c8 : ByteArray := prog_24_method_1_code
def yJxc12de_init_da8c8 : MethodName := ⟨RJxc12de, "<init>", "()V"⟩
def RJx4a65c : String := "java/util/ArrayList"
def TJx4a65c : u_T := fun k => match k with
  | 0 => ("java/util/AbstractList", "modCount", "I", false)
  | 1 => ("java/util/ArrayList", "elementData", "[Ljava/lang/Object;", false)
  | _ => ("java/util/ArrayList", "size", "I", false)
def tyJx4a65c : Nat → FieldType := fun k => match k with
  | 0 => .int
  | 1 => .array (.object "java/lang/Object")
  | _ => .int
theorem nmJx4a65c : ∀ a, a < 3 → ∀ b, b < 3 → a ≠ b → (TJx4a65c a).2.1 ≠ (TJx4a65c b).2.1 := by decide +kernel
theorem tyJx4a65c_ok : ∀ k, k < 3 → parseFieldDescriptor (TJx4a65c k).2.2.1 = some (tyJx4a65c k) := by decide +kernel
abbrev cJx4a65c_init_da8c8 : ByteArray := prog_25_method_2_code
def yJx4a65c_init_da8c8 : MethodName := ⟨RJx4a65c, "<init>", "()V"⟩
abbrev cJx4a65c_grow_92f84 : ByteArray := prog_25_method_6_code
def yJx4a65c_grow_92f84 : MethodName := ⟨RJx4a65c, "grow", "(I)[Ljava/lang/Object;"⟩
abbrev cJx4a65c_grow_d5877 : ByteArray := prog_25_method_7_code
def yJx4a65c_grow_d5877 : MethodName := ⟨RJx4a65c, "grow", "()[Ljava/lang/Object;"⟩
abbrev cJx4a65c_size_8abf5 : ByteArray := prog_25_method_8_code
def yJx4a65c_size_8abf5 : MethodName := ⟨RJx4a65c, "size", "()I"⟩
abbrev cJx4a65c_elementData_915e3 : ByteArray := prog_25_method_18_code
def yJx4a65c_elementData_915e3 : MethodName := ⟨RJx4a65c, "elementData", "(I)Ljava/lang/Object;"⟩
abbrev cJx4a65c_get_915e3 : ByteArray := prog_25_method_20_code
def yJx4a65c_get_915e3 : MethodName := ⟨RJx4a65c, "get", "(I)Ljava/lang/Object;"⟩
abbrev cJx4a65c_add_72be8 : ByteArray := prog_25_method_24_code
def yJx4a65c_add_72be8 : MethodName := ⟨RJx4a65c, "add", "(Ljava/lang/Object;[Ljava/lang/Object;I)V"⟩
abbrev cJx4a65c_add_9ea2d : ByteArray := prog_25_method_25_code
def yJx4a65c_add_9ea2d : MethodName := ⟨RJx4a65c, "add", "(Ljava/lang/Object;)Z"⟩
def RJ7 : String := "java/util/Arrays"
def TJ7 : u_T := fun k => match k with
  | _ => ("", "", "", false)
def tyJ7 : Nat → FieldType := fun k => match k with
  | _ => .int
theorem nmJ7 : ∀ a, a < 0 → ∀ b, b < 0 → a ≠ b → (TJ7 a).2.1 ≠ (TJ7 b).2.1 := by decide +kernel
theorem tyJ7_ok : ∀ k, k < 0 → parseFieldDescriptor (TJ7 k).2.2.1 = some (tyJ7 k) := by decide +kernel
abbrev cJ7_fill_53178 : ByteArray := prog_26_method_103_code
def yJ7_fill_53178 : MethodName := ⟨RJ7, "fill", "([II)V"⟩
abbrev cJ7_copyOf_1904c : ByteArray := prog_26_method_119_code
def yJ7_copyOf_1904c : MethodName := ⟨RJ7, "copyOf", "([Ljava/lang/Object;I)[Ljava/lang/Object;"⟩
abbrev cJ7_copyOf_6403c : ByteArray := prog_26_method_120_code
def yJ7_copyOf_6403c : MethodName := ⟨RJ7, "copyOf", "([Ljava/lang/Object;ILjava/lang/Class;)[Ljava/lang/Object;"⟩
def RJx5ef63 : String := "java/util/Collection"
def TJx5ef63 : u_T := fun k => match k with
  | _ => ("", "", "", false)
def tyJx5ef63 : Nat → FieldType := fun k => match k with
  | _ => .int
theorem nmJx5ef63 : ∀ a, a < 0 → ∀ b, b < 0 → a ≠ b → (TJx5ef63 a).2.1 ≠ (TJx5ef63 b).2.1 := by decide +kernel
theorem tyJx5ef63_ok : ∀ k, k < 0 → parseFieldDescriptor (TJx5ef63 k).2.2.1 = some (tyJx5ef63 k) := by decide +kernel
def RJxbd725 : String := "java/util/List"
def TJxbd725 : u_T := fun k => match k with
  | _ => ("", "", "", false)
def tyJxbd725 : Nat → FieldType := fun k => match k with
  | _ => .int
theorem nmJxbd725 : ∀ a, a < 0 → ∀ b, b < 0 → a ≠ b → (TJxbd725 a).2.1 ≠ (TJxbd725 b).2.1 := by decide +kernel
theorem tyJxbd725_ok : ∀ k, k < 0 → parseFieldDescriptor (TJxbd725 k).2.2.1 = some (tyJxbd725 k) := by decide +kernel
def RJ15 : String := "java/util/Objects"
def TJ15 : u_T := fun k => match k with
  | _ => ("", "", "", false)
def tyJ15 : Nat → FieldType := fun k => match k with
  | _ => .int
theorem nmJ15 : ∀ a, a < 0 → ∀ b, b < 0 → a ≠ b → (TJ15 a).2.1 ≠ (TJ15 b).2.1 := by decide +kernel
theorem tyJ15_ok : ∀ k, k < 0 → parseFieldDescriptor (TJ15 k).2.2.1 = some (tyJ15 k) := by decide +kernel
abbrev cJ15_checkIndex_7cf53 : ByteArray := prog_29_method_17_code
def yJ15_checkIndex_7cf53 : MethodName := ⟨RJ15, "checkIndex", "(II)I"⟩
def RJxf0a74 : String := "java/util/RandomAccess"
def TJxf0a74 : u_T := fun k => match k with
  | _ => ("", "", "", false)
def tyJxf0a74 : Nat → FieldType := fun k => match k with
  | _ => .int
theorem nmJxf0a74 : ∀ a, a < 0 → ∀ b, b < 0 → a ≠ b → (TJxf0a74 a).2.1 ≠ (TJxf0a74 b).2.1 := by decide +kernel
theorem tyJxf0a74_ok : ∀ k, k < 0 → parseFieldDescriptor (TJxf0a74 k).2.2.1 = some (tyJxf0a74 k) := by decide +kernel
def RJxa66e6 : String := "java/util/SequencedCollection"
def TJxa66e6 : u_T := fun k => match k with
  | _ => ("", "", "", false)
def tyJxa66e6 : Nat → FieldType := fun k => match k with
  | _ => .int
theorem nmJxa66e6 : ∀ a, a < 0 → ∀ b, b < 0 → a ≠ b → (TJxa66e6 a).2.1 ≠ (TJxa66e6 b).2.1 := by decide +kernel
theorem tyJxa66e6_ok : ∀ k, k < 0 → parseFieldDescriptor (TJxa66e6 k).2.2.1 = some (tyJxa66e6 k) := by decide +kernel
def RJ8 : String := "jdk/internal/util/ArraysSupport"
def TJ8 : u_T := fun k => match k with
  | _ => ("", "", "", false)
def tyJ8 : Nat → FieldType := fun k => match k with
  | _ => .int
theorem nmJ8 : ∀ a, a < 0 → ∀ b, b < 0 → a ≠ b → (TJ8 a).2.1 ≠ (TJ8 b).2.1 := by decide +kernel
theorem tyJ8_ok : ∀ k, k < 0 → parseFieldDescriptor (TJ8 k).2.2.1 = some (tyJ8 k) := by decide +kernel
abbrev cJ8_newLength_cabcc : ByteArray := prog_32_method_27_code
def yJ8_newLength_cabcc : MethodName := ⟨RJ8, "newLength", "(III)I"⟩
abbrev cJ8_hugeLength_7cf53 : ByteArray := prog_32_method_28_code
def yJ8_hugeLength_7cf53 : MethodName := ⟨RJ8, "hugeLength", "(II)I"⟩
def RJ3 : String := "jdk/internal/util/Preconditions"
def TJ3 : u_T := fun k => match k with
  | _ => ("", "", "", false)
def tyJ3 : Nat → FieldType := fun k => match k with
  | _ => .int
theorem nmJ3 : ∀ a, a < 0 → ∀ b, b < 0 → a ≠ b → (TJ3 a).2.1 ≠ (TJ3 b).2.1 := by decide +kernel
theorem tyJ3_ok : ∀ k, k < 0 → parseFieldDescriptor (TJ3 k).2.2.1 = some (tyJ3 k) := by decide +kernel
abbrev cJ3_checkIndex_8e157 : ByteArray := prog_33_method_11_code
def yJ3_checkIndex_8e157 : MethodName := ⟨RJ3, "checkIndex", "(IILjava/util/function/BiFunction;)I"⟩
def RL : String := "RoamBooksLaw"
abbrev cL_cell : ByteArray := method_2_code
def yL_cell : MethodName := ⟨RL, "cell", "([II)I"⟩
abbrev cL_low : ByteArray := method_3_code
def yL_low : MethodName := ⟨RL, "low", "(II)I"⟩
abbrev cL_reach : ByteArray := method_4_code
def yL_reach : MethodName := ⟨RL, "reach", "(LRoamBooks;II)I"⟩
abbrev cL_dead : ByteArray := method_5_code
def yL_dead : MethodName := ⟨RL, "dead", "(LRoamBooks;IZ)I"⟩
abbrev cL_agree : ByteArray := method_6_code
def yL_agree : MethodName := ⟨RL, "agree", "(LRoamBooks;IIIIIII)I"⟩
abbrev cL_steer : ByteArray := method_7_code
def yL_steer : MethodName := ⟨RL, "steer", "(LRoamBooks;II)I"⟩
abbrev cL_prices : ByteArray := method_8_code
def yL_prices : MethodName := ⟨RL, "prices", "(LRoamBooks;IIII)I"⟩
abbrev cL_lose : ByteArray := method_9_code
def yL_lose : MethodName := ⟨RL, "lose", "(LRoamBooks;II)I"⟩
abbrev cL_crash : ByteArray := method_10_code
def yL_crash : MethodName := ⟨RL, "crash", "(LRoamBooks;I)I"⟩
abbrev cL_subscriber : ByteArray := method_11_code
def yL_subscriber : MethodName := ⟨RL, "subscriber", "(LRoamBooks;III)I"⟩
abbrev cL_move : ByteArray := method_12_code
def yL_move : MethodName := ⟨RL, "move", "(LRoamBooks;II)I"⟩
abbrev cL_off : ByteArray := method_13_code
def yL_off : MethodName := ⟨RL, "off", "(LRoamBooks;I)I"⟩
abbrev cL_attach : ByteArray := method_14_code
def yL_attach : MethodName := ⟨RL, "attach", "(LRoamBooks;II)I"⟩
abbrev cL_emergency : ByteArray := method_15_code
def yL_emergency : MethodName := ⟨RL, "emergency", "(LRoamBooks;I)I"⟩
abbrev cL_where : ByteArray := method_16_code
def yL_where : MethodName := ⟨RL, "where", "(LRoamBooks;I)I"⟩
abbrev cL_contact : ByteArray := method_17_code
def yL_contact : MethodName := ⟨RL, "contact", "(LRoamBooks;II)I"⟩
abbrev cL_agrees : ByteArray := method_18_code
def yL_agrees : MethodName := ⟨RL, "agrees", "(LRoamBooks;I)I"⟩
abbrev cL_subscriberIs : ByteArray := method_19_code
def yL_subscriberIs : MethodName := ⟨RL, "subscriberIs", "(LRoamBooks;II)I"⟩
abbrev cL_cap : ByteArray := method_20_code
def yL_cap : MethodName := ⟨RL, "cap", "(LRoamBooks;IIZ)I"⟩
abbrev cL_call : ByteArray := method_21_code
def yL_call : MethodName := ⟨RL, "call", "(LRoamBooks;III)I"⟩
abbrev cL_paidAnew : ByteArray := method_22_code
def yL_paidAnew : MethodName := ⟨RL, "paidAnew", "(LRoamBooks;I)I"⟩
abbrev cL_file : ByteArray := method_23_code
def yL_file : MethodName := ⟨RL, "file", "(LRoamBooks;II)I"⟩
abbrev cL_deliver : ByteArray := method_24_code
def yL_deliver : MethodName := ⟨RL, "deliver", "(LRoamBooks;III)I"⟩
abbrev cL_owes : ByteArray := method_25_code
def yL_owes : MethodName := ⟨RL, "owes", "(LRoamBooks;II)I"⟩
abbrev cL_owesAnew : ByteArray := method_26_code
def yL_owesAnew : MethodName := ⟨RL, "owesAnew", "(LRoamBooks;II)I"⟩
abbrev cL_recorded : ByteArray := method_27_code
def yL_recorded : MethodName := ⟨RL, "recorded", "(LRoamBooks;III)I"⟩
abbrev cL_pass : ByteArray := method_28_code
def yL_pass : MethodName := ⟨RL, "pass", "(LRoamBooks;I)I"⟩
abbrev cL_holds : ByteArray := method_29_code
def yL_holds : MethodName := ⟨RL, "holds", "(II[I[I)I"⟩
abbrev cL_reason : ByteArray := method_30_code
def yL_reason : MethodName := ⟨RL, "reason", "(II[I[I[I)I"⟩
abbrev cL_meets : ByteArray := method_31_code
def yL_meets : MethodName := ⟨RL, "meets", "(I[I[I[I)V"⟩
abbrev cL_paid : ByteArray := method_32_code
def yL_paid : MethodName := ⟨RL, "paid", "(IZ[I[I[I)I"⟩
abbrev cL_minutes : ByteArray := method_33_code
def yL_minutes : MethodName := ⟨RL, "minutes", "(II[I[I[I)I"⟩
abbrev cL_isTold : ByteArray := method_34_code
def yL_isTold : MethodName := ⟨RL, "isTold", "(LRoamBooks;I[I[I[I[I[I[I[I[I)Z"⟩
abbrev cL_law : ByteArray := code
def yL_law : MethodName := ⟨RL, "law", "([I)Z"⟩
abbrev vwCl : List vw_C := [(RJx4a65c, TJx4a65c, 3), (RX0, TX0, 3), (RX1, TX1, 7), (RX2, TX2, 1), (RX3, TX3, 4), (RX4, TX4, 5), (RX5, TX5, 7), (RX6, TX6, 11), (RX7, TX7, 7)]
